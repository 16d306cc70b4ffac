/-! the class: questions about all orders -/
theorem go_next {V : pV} {n nn r : Nat} {I1 I2 I3 : fdI} (c1 : crX V n nn (prm n r) I1) (f : ∀ a, a < 65 ∨ 67 < a → I2 a = I1 a) (g : ∀ a, a ≠ 58 → a ≠ 59 → I3 a = I2 a) (o : r + 1 < fac n → orX n (prm n (r + 1)) I3 ∧ plX n (prm n (r + 1)) I3) : cfr I1 I3 ∧ (r + 1 < fac n → crX V n nn (prm n (r + 1)) I3) := by
  refine ⟨fun a ha => (g a (by omega) (by omega)).trans (f a (by omega)), fun hr => ⟨c1.1.same (fun a ha => (g a (by omega) (by omega)).trans (f a (by omega))), (o hr).1, (o hr).2⟩⟩
theorem crX.live {V : pV} {n nn : Nat} {p : Nat → Nat} {I1 I2 : fdI} (c1 : crX V n nn p I1) (f : ∀ a, a < 65 ∨ 67 < a → I2 a = I1 a) : crX V n nn p I2 := c1.same (fun a _ a2 => f a (by omega))
theorem cfr.live {I1 I2 : fdI} (f : ∀ a, a < 65 ∨ 67 < a → I2 a = I1 a) : cfr I1 I2 := fun a ha => f a (by omega)
theorem nI_n1 {k : Nat} (h : k < 2 ^ 31) : ¬ nI k = -1 := fun q => nI_pos h (by rw [q]; decide)
def o_hang (s : pS) (i : Int32) : oT := if -1 ≤ i then (hgF (hgV s.1 s.2.1 s.2.2.1 s.2.2.2.1) i (fac s.2.1) 0 0, s, 3) else (-10, s, 0)
theorem c_X10_hang (s : pS) (α : Nat → Nat) (I : fdI) (L : fdL) (i : Int32) (hs : stOk s) (hD : stD s) (hx : xSt 8 s I) : Con fd_SX α yX10_hang mX10_hang [.ref (α 0), .int i] I L (fd_ip (xOut (o_hang s i) I L)) := by
  refine Con.of (by decide) rfl (Nat.le_of_ble_eq_true rfl) ?_
  unfold o_hang
  have hn7 := hs.n7
  have hf := fac_le hn7.2
  by_cases hok : -1 ≤ i
  · rw [if_pos hok]
    have loop : ∀ m r k, r + m = fac s.2.1 → k ≤ r → ∀ I1 : fdI, cfr I I1 → (r < fac s.2.1 → crX s.1 s.2.1 s.2.2.1 (prm s.2.1 r) I1) → Rn fd_SX α mX10_hang 21 [(3, .int (nI r)), (2, .int (nI k)), (0, .ref (α 0)), (1, .int i)] [] I1 L (fd_ip (xOut (hgF (hgV s.1 s.2.1 s.2.2.1 s.2.2.2.1) i m r k, s, 3) I L)) := by
      intro m
      induction m with
      | zero =>
        intro r k hr hk I1 f1 _
        have x1 := f1.st hx (by decide)
        have e : r = fac s.2.1 := by omega
        by_cases hi : i = -1
        · have ev : hgF (hgV s.1 s.2.1 s.2.2.1 s.2.2.2.1) i 0 r k = nI k := if_pos hi
          rw [ev]
          refine r_iload_n dX10_hang_21 rfl ?_
          refine r_aload_n dX10_hang_22 rfl ?_
          refine r_getR rfl rfl fl_10_18 dX10_hang_23 ?_
          refine r_cVr (As := []) (c_X5_orders α _ _ x1.n hn7) lk_10_176 rfl rfl (by decide) (by decide) rfl rfl (Nat.le_of_ble_eq_true rfl) dX10_hang_26 ?_
          refine r_icmp_ge 62 dX10_hang_29 (by decide) (fun h29 => ?_) (fun h29 => absurd h29 (not_not_intro (by rw [e]; exact Int32.le_refl _)))
          refine r_iload_n dX10_hang_62 rfl ?_
          refine r_iconst (v := (-1)) dX10_hang_63 rfl ?_
          refine r_icmp_ne 71 dX10_hang_64 (by decide) (fun h64 => absurd h64 (not_not_intro hi)) (fun h64 => ?_)
          refine r_iload_n dX10_hang_67 rfl ?_
          refine r_goto (tgt := 73) dX10_hang_68 (by decide) ?_
          refine r_iret rfl dX10_hang_73 ?_
          exact ⟨_, rfl, xOut.ask hx f1⟩
        · have ev : hgF (hgV s.1 s.2.1 s.2.2.1 s.2.2.2.1) i 0 r k = -5 := if_neg hi
          rw [ev]
          refine r_iload_n dX10_hang_21 rfl ?_
          refine r_aload_n dX10_hang_22 rfl ?_
          refine r_getR rfl rfl fl_10_18 dX10_hang_23 ?_
          refine r_cVr (As := []) (c_X5_orders α _ _ x1.n hn7) lk_10_176 rfl rfl (by decide) (by decide) rfl rfl (Nat.le_of_ble_eq_true rfl) dX10_hang_26 ?_
          refine r_icmp_ge 62 dX10_hang_29 (by decide) (fun h29 => ?_) (fun h29 => absurd h29 (not_not_intro (by rw [e]; exact Int32.le_refl _)))
          refine r_iload_n dX10_hang_62 rfl ?_
          refine r_iconst (v := (-1)) dX10_hang_63 rfl ?_
          refine r_icmp_ne 71 dX10_hang_64 (by decide) (fun h64 => ?_) (fun h64 => absurd h64 hi)
          refine r_bipush (v := (-5)) dX10_hang_71 rfl ?_
          refine r_iret rfl dX10_hang_73 ?_
          exact ⟨_, rfl, xOut.ask hx f1⟩
      | succ m ih =>
        intro r k hr hk I1 f1 c1
        have x1 := f1.st hx (by decide)
        have hr1 : r < fac s.2.1 := by omega
        have c1 := c1 hr1
        have hP := prm_P hn7 hr1
        by_cases hg : hgV s.1 s.2.1 s.2.2.1 s.2.2.2.1 r = true
        · by_cases hi : nI k = i
          · have ev : hgF (hgV s.1 s.2.1 s.2.2.1 s.2.2.2.1) i (m + 1) r k = nI r := by
              show (if hgV s.1 s.2.1 s.2.2.1 s.2.2.2.1 r = true then (if nI k = i then nI r else _) else _) = _
              rw [if_pos hg, if_pos hi]
            rw [ev]
            refine r_iload_n dX10_hang_21 rfl ?_
            refine r_aload_n dX10_hang_22 rfl ?_
            refine r_getR rfl rfl fl_10_18 dX10_hang_23 ?_
            refine r_cVr (As := []) (c_X5_orders α _ _ x1.n hn7) lk_10_176 rfl rfl (by decide) (by decide) rfl rfl (Nat.le_of_ble_eq_true rfl) dX10_hang_26 ?_
            refine r_icmp_ge 62 dX10_hang_29 (by decide) (fun h29 => absurd h29 (fun q => absurd ((nI_leI (by omega) (by omega)).mp q) (by omega))) (fun h29 => ?_)
            refine r_aload_n dX10_hang_32 rfl ?_
            refine r_cVp (As := []) (c_X10_hangsTogether s α _ _ hs hD x1 hP c1) lk_10_179 rfl rfl (by decide) (by decide) rfl rfl (Nat.le_of_ble_eq_true rfl) dX10_hang_33 (fun v33 I33 L33 q33 => ?_)
            obtain ⟨rfl, rfl, f33⟩ := q33
            refine r_if_eq 49 dX10_hang_36 (by decide) (fun h36 => absurd h36 (fd_bn.mpr hg)) (fun h36 => ?_)
            refine r_iload_n dX10_hang_39 rfl ?_
            refine r_iload_n dX10_hang_40 rfl ?_
            refine r_icmp_ne 46 dX10_hang_41 (by decide) (fun h41 => absurd h41 (not_not_intro hi)) (fun h41 => ?_)
            refine r_iload_n dX10_hang_44 rfl ?_
            refine r_iret rfl dX10_hang_45 ?_
            exact ⟨_, rfl, xOut.ask hx (f1.trans (cfr.live f33))⟩
          · have ev : hgF (hgV s.1 s.2.1 s.2.2.1 s.2.2.2.1) i (m + 1) r k = hgF (hgV s.1 s.2.1 s.2.2.1 s.2.2.2.1) i m (r + 1) (k + 1) := by
              show (if hgV s.1 s.2.1 s.2.2.1 s.2.2.2.1 r = true then (if nI k = i then nI r else _) else _) = _
              rw [if_pos hg, if_neg hi]
            rw [ev]
            refine r_iload_n dX10_hang_21 rfl ?_
            refine r_aload_n dX10_hang_22 rfl ?_
            refine r_getR rfl rfl fl_10_18 dX10_hang_23 ?_
            refine r_cVr (As := []) (c_X5_orders α _ _ x1.n hn7) lk_10_176 rfl rfl (by decide) (by decide) rfl rfl (Nat.le_of_ble_eq_true rfl) dX10_hang_26 ?_
            refine r_icmp_ge 62 dX10_hang_29 (by decide) (fun h29 => absurd h29 (fun q => absurd ((nI_leI (by omega) (by omega)).mp q) (by omega))) (fun h29 => ?_)
            refine r_aload_n dX10_hang_32 rfl ?_
            refine r_cVp (As := []) (c_X10_hangsTogether s α _ _ hs hD x1 hP c1) lk_10_179 rfl rfl (by decide) (by decide) rfl rfl (Nat.le_of_ble_eq_true rfl) dX10_hang_33 (fun v33 I33 L33 q33 => ?_)
            obtain ⟨rfl, rfl, f33⟩ := q33
            have c33 := c1.live f33
            refine r_if_eq 49 dX10_hang_36 (by decide) (fun h36 => absurd h36 (fd_bn.mpr hg)) (fun h36 => ?_)
            refine r_iload_n dX10_hang_39 rfl ?_
            refine r_iload_n dX10_hang_40 rfl ?_
            refine r_icmp_ne 46 dX10_hang_41 (by decide) (fun h41 => ?_) (fun h41 => absurd h41 hi)
            refine r_iinc (v := _ + 1) (lv' := [(2, _), (3, _), (0, _), (1, _)]) dX10_hang_46 rfl rfl (Nat.le_of_ble_eq_true rfl) rfl ?_
            rw [nI_1]
            refine r_aload_n dX10_hang_49 rfl ?_
            refine r_getR rfl rfl fl_10_43 dX10_hang_50 ?_
            refine r_cVq (As := []) (c_X2_goOn α _ _ r c33.1.1 hn7 hr1 c33.2.1) lk_10_183 rfl rfl (by decide) (by decide) rfl rfl (Nat.le_of_ble_eq_true rfl) dX10_hang_53 (fun I53 L53 q53 => ?_)
            obtain ⟨rfl, f53, o53⟩ := q53
            obtain ⟨g53, c53⟩ := go_next c1 f33 f53 o53
            refine r_iinc (v := _ + 1) (lv' := [(3, _), (2, _), (0, _), (1, _)]) dX10_hang_56 rfl rfl (Nat.le_of_ble_eq_true rfl) rfl ?_
            refine r_goto (tgt := 21) dX10_hang_59 (by decide) ?_
            rw [nI_1]
            exact r_keep [3, 2, 0, 1] rfl (ih (r + 1) (k + 1) (by omega) (by omega) _ (f1.trans g53) c53)
        · have ev : hgF (hgV s.1 s.2.1 s.2.2.1 s.2.2.2.1) i (m + 1) r k = hgF (hgV s.1 s.2.1 s.2.2.1 s.2.2.2.1) i m (r + 1) k := by
            show (if hgV s.1 s.2.1 s.2.2.1 s.2.2.2.1 r = true then _ else _) = _
            rw [if_neg hg]
          rw [ev]
          refine r_iload_n dX10_hang_21 rfl ?_
          refine r_aload_n dX10_hang_22 rfl ?_
          refine r_getR rfl rfl fl_10_18 dX10_hang_23 ?_
          refine r_cVr (As := []) (c_X5_orders α _ _ x1.n hn7) lk_10_176 rfl rfl (by decide) (by decide) rfl rfl (Nat.le_of_ble_eq_true rfl) dX10_hang_26 ?_
          refine r_icmp_ge 62 dX10_hang_29 (by decide) (fun h29 => absurd h29 (fun q => absurd ((nI_leI (by omega) (by omega)).mp q) (by omega))) (fun h29 => ?_)
          refine r_aload_n dX10_hang_32 rfl ?_
          refine r_cVp (As := []) (c_X10_hangsTogether s α _ _ hs hD x1 hP c1) lk_10_179 rfl rfl (by decide) (by decide) rfl rfl (Nat.le_of_ble_eq_true rfl) dX10_hang_33 (fun v33 I33 L33 q33 => ?_)
          obtain ⟨rfl, rfl, f33⟩ := q33
          have c33 := c1.live f33
          refine r_if_eq 49 dX10_hang_36 (by decide) (fun h36 => ?_) (fun h36 => absurd h36 (not_not_intro (fd_b0.mpr hg)))
          refine r_aload_n dX10_hang_49 rfl ?_
          refine r_getR rfl rfl fl_10_43 dX10_hang_50 ?_
          refine r_cVq (As := []) (c_X2_goOn α _ _ r c33.1.1 hn7 hr1 c33.2.1) lk_10_183 rfl rfl (by decide) (by decide) rfl rfl (Nat.le_of_ble_eq_true rfl) dX10_hang_53 (fun I53 L53 q53 => ?_)
          obtain ⟨rfl, f53, o53⟩ := q53
          obtain ⟨g53, c53⟩ := go_next c1 f33 f53 o53
          refine r_iinc (v := _ + 1) (lv' := [(3, _), (2, _), (0, _), (1, _)]) dX10_hang_56 rfl rfl (Nat.le_of_ble_eq_true rfl) rfl ?_
          refine r_goto (tgt := 21) dX10_hang_59 (by decide) ?_
          rw [nI_1]
          exact r_keep [3, 2, 0, 1] rfl (ih (r + 1) k (by omega) (by omega) _ (f1.trans g53) c53)
    refine r_iload_n dX10_hang_0 rfl ?_
    refine r_iconst (v := (-1)) dX10_hang_1 rfl ?_
    refine r_icmp_ge 12 dX10_hang_2 (by decide) (fun h2 => ?_) (fun h2 => absurd h2 (not_not_intro hok))
    refine r_iconst (v := 0) dX10_hang_12 rfl ?_
    refine r_istore_n (lv' := [(2, _), (0, _), (1, _)]) dX10_hang_13 (Nat.le_of_ble_eq_true rfl) rfl ?_
    refine r_aload_n dX10_hang_14 rfl ?_
    refine r_iconst (v := 0) dX10_hang_15 rfl ?_
    refine r_cVq (As := [_]) (c_X10_follow s α _ _ 0 hs hx (fac_pos _)) lk_10_151 rfl rfl (by decide) (by decide) rfl rfl (Nat.le_of_ble_eq_true rfl) dX10_hang_16 (fun I16 L16 q16 => ?_)
    obtain ⟨rfl, f16, c16, l16⟩ := q16
    refine r_iconst (v := 0) dX10_hang_19 rfl ?_
    refine r_istore_n (lv' := [(3, _), (2, _), (0, _), (1, _)]) dX10_hang_20 (Nat.le_of_ble_eq_true rfl) rfl ?_
    exact r_keep [3, 2, 0, 1] rfl (loop _ 0 0 (by omega) (by omega) _ f16 (fun _ => c16))
  · rw [if_neg hok]
    refine r_iload_n dX10_hang_0 rfl ?_
    refine r_iconst (v := (-1)) dX10_hang_1 rfl ?_
    refine r_icmp_ge 12 dX10_hang_2 (by decide) (fun h2 => absurd h2 hok) (fun h2 => ?_)
    refine r_aload_n dX10_hang_5 rfl ?_
    refine r_bipush (v := (-10)) dX10_hang_6 rfl ?_
    refine r_cVr (As := [_]) (c_X10_badAs α _ _ _) lk_10_111 rfl rfl (by decide) (by decide) rfl rfl (Nat.le_of_ble_eq_true rfl) dX10_hang_8 ?_
    refine r_iret rfl dX10_hang_11 ?_
    exact ⟨_, rfl, xOut.bad hx⟩
def o_when (s : pS) (d set : Int32) : oT := if dayP d s.2.1 ∧ dayP set 64 then (orN (whV s.1 s.2.1 s.2.2.1 s.2.2.2.1 d.toNatClampNeg set) (fac s.2.1), s, 3) else (-2, s, 0)
theorem c_X10_when (s : pS) (α : Nat → Nat) (I : fdI) (L : fdL) (d set : Int32) (hs : stOk s) (hD : stD s) (hx : xSt 8 s I) : Con fd_SX α yX10_when mX10_when [.ref (α 0), .int d, .int set] I L (fd_ip (xOut (o_when s d set) I L)) := by
  refine Con.of (by decide) rfl (Nat.le_of_ble_eq_true rfl) ?_
  unfold o_when
  have hn7 := hs.n7
  have hf := fac_le hn7.2
  by_cases hok : dayP d s.2.1 ∧ dayP set 64
  · rw [if_pos hok]
    obtain ⟨hok1, hok2⟩ := hok
    obtain ⟨j, hj, rfl⟩ := dayP_nI hok1
    rw [nI_clamp (by omega)]
    have loop : ∀ r, r ≤ fac s.2.1 → ∀ I1 : fdI, cfr I I1 → (r < fac s.2.1 → crX s.1 s.2.1 s.2.2.1 (prm s.2.1 r) I1) → Rn fd_SX α mX10_when 38 [(4, .int (nI r)), (3, .int (orN (whV s.1 s.2.1 s.2.2.1 s.2.2.2.1 j set) r)), (0, .ref (α 0)), (1, .int (nI j)), (2, .int set)] [] I1 L (fd_ip (xOut (orN (whV s.1 s.2.1 s.2.2.1 s.2.2.2.1 j set) (fac s.2.1), s, 3) I L)) := by
      refine fd_down (fun r hr ih => ?_)
      intro I1 f1 c1
      have x1 := f1.st hx (by decide)
      by_cases hx2 : r = fac s.2.1
      · refine r_iload dX10_when_38 rfl ?_
        refine r_aload_n dX10_when_40 rfl ?_
        refine r_getR rfl rfl fl_10_18 dX10_when_41 ?_
        refine r_cVr (As := []) (c_X5_orders α _ _ x1.n hn7) lk_10_176 rfl rfl (by decide) (by decide) rfl rfl (Nat.le_of_ble_eq_true rfl) dX10_when_44 ?_
        refine r_icmp_ge 97 dX10_when_47 (by decide) (fun h47 => ?_) (fun h47 => absurd h47 (not_not_intro (by rw [hx2]; exact Int32.le_refl _)))
        refine r_iload_n dX10_when_97 rfl ?_
        refine r_iret rfl dX10_when_98 ?_
        refine ⟨_, rfl, ?_⟩
        rw [hx2]
        exact xOut.ask hx f1
      · have hr1 : r < fac s.2.1 := by omega
        have c1 := c1 hr1
        have hP := prm_P hn7 hr1
        have ih := ih hr1
        by_cases ht : tlV s.1 s.2.1 s.2.2.2.1 r = true
        · by_cases hk : knV s.1 s.2.1 s.2.2.1 (prm s.2.1 r) j = set
          · have ev : orN (whV s.1 s.2.1 s.2.2.1 s.2.2.2.1 j set) (r + 1) = orN (whV s.1 s.2.1 s.2.2.1 s.2.2.2.1 j set) r ||| 1 <<< (nI (ps (prm s.2.1 r) s.2.1 j) &&& 31) := congrArg (fun z => orN (whV s.1 s.2.1 s.2.2.1 s.2.2.2.1 j set) r ||| z) (if_pos ⟨ht, hk⟩)
            rw [ev] at ih
            refine r_iload dX10_when_38 rfl ?_
            refine r_aload_n dX10_when_40 rfl ?_
            refine r_getR rfl rfl fl_10_18 dX10_when_41 ?_
            refine r_cVr (As := []) (c_X5_orders α _ _ x1.n hn7) lk_10_176 rfl rfl (by decide) (by decide) rfl rfl (Nat.le_of_ble_eq_true rfl) dX10_when_44 ?_
            refine r_icmp_ge 97 dX10_when_47 (by decide) (fun h47 => absurd h47 (fun q => absurd ((nI_leI (by omega) (by omega)).mp q) (by omega))) (fun h47 => ?_)
            refine r_aload_n dX10_when_50 rfl ?_
            refine r_cVp (As := []) (c_X10_livesAsTold s α _ _ hs hD x1 hP c1) lk_10_205 rfl rfl (by decide) (by decide) rfl rfl (Nat.le_of_ble_eq_true rfl) dX10_when_51 (fun v51 I51 L51 q51 => ?_)
            obtain ⟨rfl, rfl, f51, l51⟩ := q51
            have l51 := l51 ht
            have c51 := c1.live f51
            refine r_if_eq 84 dX10_when_54 (by decide) (fun h54 => absurd h54 (fd_bn.mpr ht)) (fun h54 => ?_)
            refine r_aload_n dX10_when_57 rfl ?_
            refine r_getR rfl rfl fl_10_43 dX10_when_58 ?_
            refine r_getR rfl rfl fl_10_158 dX10_when_61 ?_
            refine r_iload_n dX10_when_64 rfl ?_
            refine r_ialdN rfl dX10_when_65 (by omega) (by omega) (l51 j hj).2.2 ?_
            refine r_iload_n dX10_when_66 rfl ?_
            refine r_icmp_ne 84 dX10_when_67 (by decide) (fun h67 => absurd h67 (not_not_intro hk)) (fun h67 => ?_)
            refine r_iload_n dX10_when_70 rfl ?_
            refine r_iconst (v := 1) dX10_when_71 rfl ?_
            refine r_aload_n dX10_when_72 rfl ?_
            refine r_getR rfl rfl fl_10_43 dX10_when_73 ?_
            refine r_getR rfl rfl fl_10_212 dX10_when_76 ?_
            refine r_iload_n dX10_when_79 rfl ?_
            refine r_ialdN rfl dX10_when_80 (by omega) (by omega) (plX_ps hP c51.2.2 hj) ?_
            refine r_ishl dX10_when_81 ?_
            refine r_ior dX10_when_82 ?_
            refine r_istore_n (lv' := [(3, _), (4, _), (0, _), (1, _), (2, _)]) dX10_when_83 (Nat.le_of_ble_eq_true rfl) rfl ?_
            refine r_aload_n dX10_when_84 rfl ?_
            refine r_getR rfl rfl fl_10_43 dX10_when_85 ?_
            refine r_cVq (As := []) (c_X2_goOn α _ _ r c51.1.1 hn7 hr1 c51.2.1) lk_10_183 rfl rfl (by decide) (by decide) rfl rfl (Nat.le_of_ble_eq_true rfl) dX10_when_88 (fun I88 L88 q88 => ?_)
            obtain ⟨rfl, f88, o88⟩ := q88
            obtain ⟨g88, c88⟩ := go_next c1 f51 f88 o88
            refine r_iinc (v := _ + 1) (lv' := [(4, _), (3, _), (0, _), (1, _), (2, _)]) dX10_when_91 rfl rfl (Nat.le_of_ble_eq_true rfl) rfl ?_
            refine r_goto (tgt := 38) dX10_when_94 (by decide) ?_
            rw [nI_1]
            exact r_keep [4, 3, 0, 1, 2] rfl (ih _ (f1.trans g88) c88)
          · have ev : orN (whV s.1 s.2.1 s.2.2.1 s.2.2.2.1 j set) (r + 1) = orN (whV s.1 s.2.1 s.2.2.1 s.2.2.2.1 j set) r := (congrArg (fun z => orN (whV s.1 s.2.1 s.2.2.1 s.2.2.2.1 j set) r ||| z) (if_neg (fun q => hk q.2))).trans Int32.or_zero
            rw [ev] at ih
            refine r_iload dX10_when_38 rfl ?_
            refine r_aload_n dX10_when_40 rfl ?_
            refine r_getR rfl rfl fl_10_18 dX10_when_41 ?_
            refine r_cVr (As := []) (c_X5_orders α _ _ x1.n hn7) lk_10_176 rfl rfl (by decide) (by decide) rfl rfl (Nat.le_of_ble_eq_true rfl) dX10_when_44 ?_
            refine r_icmp_ge 97 dX10_when_47 (by decide) (fun h47 => absurd h47 (fun q => absurd ((nI_leI (by omega) (by omega)).mp q) (by omega))) (fun h47 => ?_)
            refine r_aload_n dX10_when_50 rfl ?_
            refine r_cVp (As := []) (c_X10_livesAsTold s α _ _ hs hD x1 hP c1) lk_10_205 rfl rfl (by decide) (by decide) rfl rfl (Nat.le_of_ble_eq_true rfl) dX10_when_51 (fun v51 I51 L51 q51 => ?_)
            obtain ⟨rfl, rfl, f51, l51⟩ := q51
            have l51 := l51 ht
            have c51 := c1.live f51
            refine r_if_eq 84 dX10_when_54 (by decide) (fun h54 => absurd h54 (fd_bn.mpr ht)) (fun h54 => ?_)
            refine r_aload_n dX10_when_57 rfl ?_
            refine r_getR rfl rfl fl_10_43 dX10_when_58 ?_
            refine r_getR rfl rfl fl_10_158 dX10_when_61 ?_
            refine r_iload_n dX10_when_64 rfl ?_
            refine r_ialdN rfl dX10_when_65 (by omega) (by omega) (l51 j hj).2.2 ?_
            refine r_iload_n dX10_when_66 rfl ?_
            refine r_icmp_ne 84 dX10_when_67 (by decide) (fun h67 => ?_) (fun h67 => absurd h67 hk)
            refine r_aload_n dX10_when_84 rfl ?_
            refine r_getR rfl rfl fl_10_43 dX10_when_85 ?_
            refine r_cVq (As := []) (c_X2_goOn α _ _ r c51.1.1 hn7 hr1 c51.2.1) lk_10_183 rfl rfl (by decide) (by decide) rfl rfl (Nat.le_of_ble_eq_true rfl) dX10_when_88 (fun I88 L88 q88 => ?_)
            obtain ⟨rfl, f88, o88⟩ := q88
            obtain ⟨g88, c88⟩ := go_next c1 f51 f88 o88
            refine r_iinc (v := _ + 1) (lv' := [(4, _), (3, _), (0, _), (1, _), (2, _)]) dX10_when_91 rfl rfl (Nat.le_of_ble_eq_true rfl) rfl ?_
            refine r_goto (tgt := 38) dX10_when_94 (by decide) ?_
            rw [nI_1]
            exact r_keep [4, 3, 0, 1, 2] rfl (ih _ (f1.trans g88) c88)
        · have ev : orN (whV s.1 s.2.1 s.2.2.1 s.2.2.2.1 j set) (r + 1) = orN (whV s.1 s.2.1 s.2.2.1 s.2.2.2.1 j set) r := (congrArg (fun z => orN (whV s.1 s.2.1 s.2.2.1 s.2.2.2.1 j set) r ||| z) (if_neg (fun q => ht q.1))).trans Int32.or_zero
          rw [ev] at ih
          refine r_iload dX10_when_38 rfl ?_
          refine r_aload_n dX10_when_40 rfl ?_
          refine r_getR rfl rfl fl_10_18 dX10_when_41 ?_
          refine r_cVr (As := []) (c_X5_orders α _ _ x1.n hn7) lk_10_176 rfl rfl (by decide) (by decide) rfl rfl (Nat.le_of_ble_eq_true rfl) dX10_when_44 ?_
          refine r_icmp_ge 97 dX10_when_47 (by decide) (fun h47 => absurd h47 (fun q => absurd ((nI_leI (by omega) (by omega)).mp q) (by omega))) (fun h47 => ?_)
          refine r_aload_n dX10_when_50 rfl ?_
          refine r_cVp (As := []) (c_X10_livesAsTold s α _ _ hs hD x1 hP c1) lk_10_205 rfl rfl (by decide) (by decide) rfl rfl (Nat.le_of_ble_eq_true rfl) dX10_when_51 (fun v51 I51 L51 q51 => ?_)
          obtain ⟨rfl, rfl, f51, l51⟩ := q51
          have c51 := c1.live f51
          refine r_if_eq 84 dX10_when_54 (by decide) (fun h54 => ?_) (fun h54 => absurd h54 (not_not_intro (fd_b0.mpr ht)))
          refine r_aload_n dX10_when_84 rfl ?_
          refine r_getR rfl rfl fl_10_43 dX10_when_85 ?_
          refine r_cVq (As := []) (c_X2_goOn α _ _ r c51.1.1 hn7 hr1 c51.2.1) lk_10_183 rfl rfl (by decide) (by decide) rfl rfl (Nat.le_of_ble_eq_true rfl) dX10_when_88 (fun I88 L88 q88 => ?_)
          obtain ⟨rfl, f88, o88⟩ := q88
          obtain ⟨g88, c88⟩ := go_next c1 f51 f88 o88
          refine r_iinc (v := _ + 1) (lv' := [(4, _), (3, _), (0, _), (1, _), (2, _)]) dX10_when_91 rfl rfl (Nat.le_of_ble_eq_true rfl) rfl ?_
          refine r_goto (tgt := 38) dX10_when_94 (by decide) ?_
          rw [nI_1]
          exact r_keep [4, 3, 0, 1, 2] rfl (ih _ (f1.trans g88) c88)
    refine r_aload_n dX10_when_0 rfl ?_
    refine r_getR rfl rfl fl_10_18 dX10_when_1 ?_
    refine r_iload_n dX10_when_4 rfl ?_
    refine r_cVr (As := [_]) (c_X5_hasDay α _ _ _ hx.n hn7) lk_10_144 rfl rfl (by decide) (by decide) rfl rfl (Nat.le_of_ble_eq_true rfl) dX10_when_5 ?_
    refine r_if_eq 21 dX10_when_8 (by decide) (fun h8 => absurd h8 (fd_bn.mpr hok1)) (fun h8 => ?_)
    refine r_iload_n dX10_when_11 rfl ?_
    refine r_if_lt 21 dX10_when_12 (by decide) (fun h12 => absurd h12 (dayP_n0 hok2)) (fun h12 => ?_)
    refine r_iload_n dX10_when_15 rfl ?_
    refine r_bipush (v := 63) dX10_when_16 rfl ?_
    refine r_icmp_le 28 dX10_when_18 (by decide) (fun h18 => ?_) (fun h18 => absurd h18 (not_not_intro (le_of_dayP (m := 63) hok2 (by decide))))
    refine r_iconst (v := 0) dX10_when_28 rfl ?_
    refine r_istore_n (lv' := [(3, _), (0, _), (1, _), (2, _)]) dX10_when_29 (Nat.le_of_ble_eq_true rfl) rfl ?_
    refine r_aload_n dX10_when_30 rfl ?_
    refine r_iconst (v := 0) dX10_when_31 rfl ?_
    refine r_cVq (As := [_]) (c_X10_follow s α _ _ 0 hs hx (fac_pos _)) lk_10_151 rfl rfl (by decide) (by decide) rfl rfl (Nat.le_of_ble_eq_true rfl) dX10_when_32 (fun I32 L32 q32 => ?_)
    obtain ⟨rfl, f32, c32, l32⟩ := q32
    refine r_iconst (v := 0) dX10_when_35 rfl ?_
    refine r_istore (lv' := [(4, _), (3, _), (0, _), (1, _), (2, _)]) dX10_when_36 (Nat.le_of_ble_eq_true rfl) rfl ?_
    exact r_keep [4, 3, 0, 1, 2] rfl (loop 0 (by omega) _ f32 (fun _ => c32))
  · rw [if_neg hok]
    refine r_aload_n dX10_when_0 rfl ?_
    refine r_getR rfl rfl fl_10_18 dX10_when_1 ?_
    refine r_iload_n dX10_when_4 rfl ?_
    refine r_cVr (As := [_]) (c_X5_hasDay α _ _ _ hx.n hn7) lk_10_144 rfl rfl (by decide) (by decide) rfl rfl (Nat.le_of_ble_eq_true rfl) dX10_when_5 ?_
    refine r_if_eq 21 dX10_when_8 (by decide) (fun h8 => ?_) (fun h8 => ?_)
    · refine r_aload_n dX10_when_21 rfl ?_
      refine r_bipush (v := (-2)) dX10_when_22 rfl ?_
      refine r_cVr (As := [_]) (c_X10_counted α _ _ _) lk_10_91 rfl rfl (by decide) (by decide) rfl rfl (Nat.le_of_ble_eq_true rfl) dX10_when_24 ?_
      refine r_iret rfl dX10_when_27 ?_
      exact ⟨_, rfl, xOut.cn hx xFr.rfl' rfl rfl⟩
    · refine r_iload_n dX10_when_11 rfl ?_
      refine r_if_lt 21 dX10_when_12 (by decide) (fun h12 => ?_) (fun h12 => ?_)
      · refine r_aload_n dX10_when_21 rfl ?_
        refine r_bipush (v := (-2)) dX10_when_22 rfl ?_
        refine r_cVr (As := [_]) (c_X10_counted α _ _ _) lk_10_91 rfl rfl (by decide) (by decide) rfl rfl (Nat.le_of_ble_eq_true rfl) dX10_when_24 ?_
        refine r_iret rfl dX10_when_27 ?_
        exact ⟨_, rfl, xOut.cn hx xFr.rfl' rfl rfl⟩
      · refine r_iload_n dX10_when_15 rfl ?_
        refine r_bipush (v := 63) dX10_when_16 rfl ?_
        refine r_icmp_le 28 dX10_when_18 (by decide) (fun h18 => absurd h18 (fun q => hok ⟨fd_bn.mp h8, dayP_le (m := 63) (by decide) h12 q⟩)) (fun h18 => ?_)
        refine r_aload_n dX10_when_21 rfl ?_
        refine r_bipush (v := (-2)) dX10_when_22 rfl ?_
        refine r_cVr (As := [_]) (c_X10_counted α _ _ _) lk_10_91 rfl rfl (by decide) (by decide) rfl rfl (Nat.le_of_ble_eq_true rfl) dX10_when_24 ?_
        refine r_iret rfl dX10_when_27 ?_
        exact ⟨_, rfl, xOut.cn hx xFr.rfl' rfl rfl⟩
theorem fa_0 {f : Nat → Bool} : ∀ k, cnN f k = 0 → faF f k = -1 := by
  intro k
  induction k with
  | zero => intro _; rfl
  | succ k ih =>
    intro h
    have h : cnN f k + (if f k then 1 else 0) = 0 := h
    show (if f k = true ∧ faF f k = -1 then nI k else faF f k) = -1
    by_cases q : f k = true
    · rw [if_pos q] at h; omega
    · rw [if_neg (fun z => q z.1)]; exact ih (by omega)
theorem fa_1 {f : Nat → Bool} : ∀ k, k < 2 ^ 31 → cnN f k ≠ 0 → ¬ faF f k = -1 := by
  intro k
  induction k with
  | zero => intro _ h; exact absurd rfl h
  | succ k ih =>
    intro hk h
    show ¬ (if f k = true ∧ faF f k = -1 then nI k else faF f k) = -1
    by_cases q : f k = true ∧ faF f k = -1
    · rw [if_pos q]; exact nI_n1 (by omega)
    · rw [if_neg q]
      by_cases z : f k = true
      · exact fun w => q ⟨z, w⟩
      · have h : cnN f k + (if f k then 1 else 0) ≠ 0 := h
        rw [if_neg z] at h
        exact ih (by omega) (by omega)
def o_torn (s : pS) (w : Int32) : oT := if dayP w 2 then (tnR s.1 s.2.1 s.2.2.1 s.2.2.2.1 w, s, 3) else (-10, s, 0)
theorem c_X10_torn (s : pS) (α : Nat → Nat) (I : fdI) (L : fdL) (w : Int32) (hs : stOk s) (hD : stD s) (hx : xSt 8 s I) : Con fd_SX α yX10_torn mX10_torn [.ref (α 0), .int w] I L (fd_ip (xOut (o_torn s w) I L)) := by
  refine Con.of (by decide) rfl (Nat.le_of_ble_eq_true rfl) ?_
  unfold o_torn
  have hn7 := hs.n7
  have hf := fac_le hn7.2
  by_cases hok : dayP w 2
  · rw [if_pos hok]
    have g1 : w ≤ 1 := le_of_dayP (m := 1) hok (by decide)
    have loop : ∀ r, r ≤ fac s.2.1 → ∀ I1 : fdI, cfr I I1 → (r < fac s.2.1 → crX s.1 s.2.1 s.2.2.1 (prm s.2.1 r) I1) → Rn fd_SX α mX10_torn 28 [(4, .int (nI r)), (3, .int (faF (tnV s.1 s.2.1 s.2.2.1 s.2.2.2.1) r)), (2, .int (nI (cnN (tnV s.1 s.2.1 s.2.2.1 s.2.2.2.1) r))), (0, .ref (α 0)), (1, .int w)] [] I1 L (fd_ip (xOut (tnR s.1 s.2.1 s.2.2.1 s.2.2.2.1 w, s, 3) I L)) := by
      refine fd_down (fun r hr ih => ?_)
      intro I1 f1 c1
      have x1 := f1.st hx (by decide)
      by_cases hx2 : r = fac s.2.1
      · by_cases hw : w = 0
        · have ev : tnR s.1 s.2.1 s.2.2.1 s.2.2.2.1 w = nI (cnN (tnV s.1 s.2.1 s.2.2.1 s.2.2.2.1) (fac s.2.1)) := if_pos hw
          rw [ev]
          refine r_iload dX10_torn_28 rfl ?_
          refine r_aload_n dX10_torn_30 rfl ?_
          refine r_getR rfl rfl fl_10_18 dX10_torn_31 ?_
          refine r_cVr (As := []) (c_X5_orders α _ _ x1.n hn7) lk_10_176 rfl rfl (by decide) (by decide) rfl rfl (Nat.le_of_ble_eq_true rfl) dX10_torn_34 ?_
          refine r_icmp_ge 87 dX10_torn_37 (by decide) (fun h37 => ?_) (fun h37 => absurd h37 (not_not_intro (by rw [hx2]; exact Int32.le_refl _)))
          refine r_iload_n dX10_torn_87 rfl ?_
          refine r_if_ne 95 dX10_torn_88 (by decide) (fun h88 => absurd h88 (not_not_intro hw)) (fun h88 => ?_)
          refine r_iload_n dX10_torn_91 rfl ?_
          refine r_goto (tgt := 96) dX10_torn_92 (by decide) ?_
          refine r_iret rfl dX10_torn_96 ?_
          refine ⟨_, rfl, ?_⟩
          rw [hx2]
          exact xOut.ask hx f1
        · have ev : tnR s.1 s.2.1 s.2.2.1 s.2.2.2.1 w = faF (tnV s.1 s.2.1 s.2.2.1 s.2.2.2.1) (fac s.2.1) := if_neg hw
          rw [ev]
          refine r_iload dX10_torn_28 rfl ?_
          refine r_aload_n dX10_torn_30 rfl ?_
          refine r_getR rfl rfl fl_10_18 dX10_torn_31 ?_
          refine r_cVr (As := []) (c_X5_orders α _ _ x1.n hn7) lk_10_176 rfl rfl (by decide) (by decide) rfl rfl (Nat.le_of_ble_eq_true rfl) dX10_torn_34 ?_
          refine r_icmp_ge 87 dX10_torn_37 (by decide) (fun h37 => ?_) (fun h37 => absurd h37 (not_not_intro (by rw [hx2]; exact Int32.le_refl _)))
          refine r_iload_n dX10_torn_87 rfl ?_
          refine r_if_ne 95 dX10_torn_88 (by decide) (fun h88 => ?_) (fun h88 => absurd h88 hw)
          refine r_iload_n dX10_torn_95 rfl ?_
          refine r_iret rfl dX10_torn_96 ?_
          refine ⟨_, rfl, ?_⟩
          rw [hx2]
          exact xOut.ask hx f1
      · have hr1 : r < fac s.2.1 := by omega
        have c1 := c1 hr1
        have hP := prm_P hn7 hr1
        have ih := ih hr1
        have hcl : cnN (tnV s.1 s.2.1 s.2.2.1 s.2.2.2.1) r ≤ r := cnN_le _ _
        by_cases ht : tlV s.1 s.2.1 s.2.2.2.1 r = true
        · by_cases hd : anB (dyB s.1 s.2.1 s.2.2.1 (prm s.2.1 r)) s.2.1 = true
          · have hT : tnV s.1 s.2.1 s.2.2.1 s.2.2.2.1 r = true := by unfold tnV; rw [ht, hd]; rfl
            have e1 : cnN (tnV s.1 s.2.1 s.2.2.1 s.2.2.2.1) (r + 1) = cnN (tnV s.1 s.2.1 s.2.2.1 s.2.2.2.1) r + 1 := congrArg (fun z => cnN (tnV s.1 s.2.1 s.2.2.1 s.2.2.2.1) r + z) (if_pos hT)
            rw [e1] at ih
            by_cases hz : cnN (tnV s.1 s.2.1 s.2.2.1 s.2.2.2.1) r = 0
            · have e2 : faF (tnV s.1 s.2.1 s.2.2.1 s.2.2.2.1) (r + 1) = nI r := if_pos ⟨hT, fa_0 r hz⟩
              rw [e2] at ih
              refine r_iload dX10_torn_28 rfl ?_
              refine r_aload_n dX10_torn_30 rfl ?_
              refine r_getR rfl rfl fl_10_18 dX10_torn_31 ?_
              refine r_cVr (As := []) (c_X5_orders α _ _ x1.n hn7) lk_10_176 rfl rfl (by decide) (by decide) rfl rfl (Nat.le_of_ble_eq_true rfl) dX10_torn_34 ?_
              refine r_icmp_ge 87 dX10_torn_37 (by decide) (fun h37 => absurd h37 (fun q => absurd ((nI_leI (by omega) (by omega)).mp q) (by omega))) (fun h37 => ?_)
              refine r_aload_n dX10_torn_40 rfl ?_
              refine r_cVp (As := []) (c_X10_livesAsTold s α _ _ hs hD x1 hP c1) lk_10_205 rfl rfl (by decide) (by decide) rfl rfl (Nat.le_of_ble_eq_true rfl) dX10_torn_41 (fun v41 I41 L41 q41 => ?_)
              obtain ⟨rfl, rfl, f41, l41⟩ := q41
              have l41 := l41 ht
              have c41 := c1.live f41
              have x41 := (cfr.live f41).st x1 (by decide)
              refine r_if_eq 74 dX10_torn_44 (by decide) (fun h44 => absurd h44 (fd_bn.mpr ht)) (fun h44 => ?_)
              refine r_aload_n dX10_torn_47 rfl ?_
              refine r_getR rfl rfl fl_10_43 dX10_torn_48 ?_
              refine r_aload_n dX10_torn_51 rfl ?_
              refine r_getR rfl rfl fl_10_18 dX10_torn_52 ?_
              refine r_getR rfl rfl fl_10_218 dX10_torn_55 ?_
              refine r_cVr (As := [_]) (c_X2_fitsDiary s α _ _ hs x41 hP c41.1.1 c41.2.1 l41) lk_10_221 rfl rfl (by decide) (by decide) rfl rfl (Nat.le_of_ble_eq_true rfl) dX10_torn_58 ?_
              refine r_if_eq 74 dX10_torn_61 (by decide) (fun h61 => absurd h61 (fd_bn.mpr hd)) (fun h61 => ?_)
              refine r_iload_n dX10_torn_64 rfl ?_
              refine r_if_ne 71 dX10_torn_65 (by decide) (fun h65 => absurd h65 (not_not_intro (by rw [hz]; rfl))) (fun h65 => ?_)
              refine r_iload dX10_torn_68 rfl ?_
              refine r_istore_n (lv' := [(3, _), (4, _), (2, _), (0, _), (1, _)]) dX10_torn_70 (Nat.le_of_ble_eq_true rfl) rfl ?_
              refine r_iinc (v := _ + 1) (lv' := [(2, _), (3, _), (4, _), (0, _), (1, _)]) dX10_torn_71 rfl rfl (Nat.le_of_ble_eq_true rfl) rfl ?_
              rw [nI_1]
              refine r_aload_n dX10_torn_74 rfl ?_
              refine r_getR rfl rfl fl_10_43 dX10_torn_75 ?_
              refine r_cVq (As := []) (c_X2_goOn α _ _ r c41.1.1 hn7 hr1 c41.2.1) lk_10_183 rfl rfl (by decide) (by decide) rfl rfl (Nat.le_of_ble_eq_true rfl) dX10_torn_78 (fun I78 L78 q78 => ?_)
              obtain ⟨rfl, f78, o78⟩ := q78
              obtain ⟨g78, c78⟩ := go_next c1 f41 f78 o78
              refine r_iinc (v := _ + 1) (lv' := [(4, _), (2, _), (3, _), (0, _), (1, _)]) dX10_torn_81 rfl rfl (Nat.le_of_ble_eq_true rfl) rfl ?_
              refine r_goto (tgt := 28) dX10_torn_84 (by decide) ?_
              rw [nI_1]
              exact r_keep [4, 3, 2, 0, 1] rfl (ih _ (f1.trans g78) c78)
            · have e2 : faF (tnV s.1 s.2.1 s.2.2.1 s.2.2.2.1) (r + 1) = faF (tnV s.1 s.2.1 s.2.2.1 s.2.2.2.1) r := if_neg (fun q => fa_1 r (by omega) hz q.2)
              rw [e2] at ih
              refine r_iload dX10_torn_28 rfl ?_
              refine r_aload_n dX10_torn_30 rfl ?_
              refine r_getR rfl rfl fl_10_18 dX10_torn_31 ?_
              refine r_cVr (As := []) (c_X5_orders α _ _ x1.n hn7) lk_10_176 rfl rfl (by decide) (by decide) rfl rfl (Nat.le_of_ble_eq_true rfl) dX10_torn_34 ?_
              refine r_icmp_ge 87 dX10_torn_37 (by decide) (fun h37 => absurd h37 (fun q => absurd ((nI_leI (by omega) (by omega)).mp q) (by omega))) (fun h37 => ?_)
              refine r_aload_n dX10_torn_40 rfl ?_
              refine r_cVp (As := []) (c_X10_livesAsTold s α _ _ hs hD x1 hP c1) lk_10_205 rfl rfl (by decide) (by decide) rfl rfl (Nat.le_of_ble_eq_true rfl) dX10_torn_41 (fun v41 I41 L41 q41 => ?_)
              obtain ⟨rfl, rfl, f41, l41⟩ := q41
              have l41 := l41 ht
              have c41 := c1.live f41
              have x41 := (cfr.live f41).st x1 (by decide)
              refine r_if_eq 74 dX10_torn_44 (by decide) (fun h44 => absurd h44 (fd_bn.mpr ht)) (fun h44 => ?_)
              refine r_aload_n dX10_torn_47 rfl ?_
              refine r_getR rfl rfl fl_10_43 dX10_torn_48 ?_
              refine r_aload_n dX10_torn_51 rfl ?_
              refine r_getR rfl rfl fl_10_18 dX10_torn_52 ?_
              refine r_getR rfl rfl fl_10_218 dX10_torn_55 ?_
              refine r_cVr (As := [_]) (c_X2_fitsDiary s α _ _ hs x41 hP c41.1.1 c41.2.1 l41) lk_10_221 rfl rfl (by decide) (by decide) rfl rfl (Nat.le_of_ble_eq_true rfl) dX10_torn_58 ?_
              refine r_if_eq 74 dX10_torn_61 (by decide) (fun h61 => absurd h61 (fd_bn.mpr hd)) (fun h61 => ?_)
              refine r_iload_n dX10_torn_64 rfl ?_
              refine r_if_ne 71 dX10_torn_65 (by decide) (fun h65 => ?_) (fun h65 => absurd h65 (nI_ne0 (by omega) (by omega)))
              refine r_iinc (v := _ + 1) (lv' := [(2, _), (4, _), (3, _), (0, _), (1, _)]) dX10_torn_71 rfl rfl (Nat.le_of_ble_eq_true rfl) rfl ?_
              rw [nI_1]
              refine r_aload_n dX10_torn_74 rfl ?_
              refine r_getR rfl rfl fl_10_43 dX10_torn_75 ?_
              refine r_cVq (As := []) (c_X2_goOn α _ _ r c41.1.1 hn7 hr1 c41.2.1) lk_10_183 rfl rfl (by decide) (by decide) rfl rfl (Nat.le_of_ble_eq_true rfl) dX10_torn_78 (fun I78 L78 q78 => ?_)
              obtain ⟨rfl, f78, o78⟩ := q78
              obtain ⟨g78, c78⟩ := go_next c1 f41 f78 o78
              refine r_iinc (v := _ + 1) (lv' := [(4, _), (2, _), (3, _), (0, _), (1, _)]) dX10_torn_81 rfl rfl (Nat.le_of_ble_eq_true rfl) rfl ?_
              refine r_goto (tgt := 28) dX10_torn_84 (by decide) ?_
              rw [nI_1]
              exact r_keep [4, 3, 2, 0, 1] rfl (ih _ (f1.trans g78) c78)
          · have hT : ¬ tnV s.1 s.2.1 s.2.2.1 s.2.2.2.1 r = true := by unfold tnV; rw [ht]; exact hd
            have e1 : cnN (tnV s.1 s.2.1 s.2.2.1 s.2.2.2.1) (r + 1) = cnN (tnV s.1 s.2.1 s.2.2.1 s.2.2.2.1) r := congrArg (fun z => cnN (tnV s.1 s.2.1 s.2.2.1 s.2.2.2.1) r + z) (if_neg hT)
            have e2 : faF (tnV s.1 s.2.1 s.2.2.1 s.2.2.2.1) (r + 1) = faF (tnV s.1 s.2.1 s.2.2.1 s.2.2.2.1) r := if_neg (fun q => hT q.1)
            rw [e1, e2] at ih
            refine r_iload dX10_torn_28 rfl ?_
            refine r_aload_n dX10_torn_30 rfl ?_
            refine r_getR rfl rfl fl_10_18 dX10_torn_31 ?_
            refine r_cVr (As := []) (c_X5_orders α _ _ x1.n hn7) lk_10_176 rfl rfl (by decide) (by decide) rfl rfl (Nat.le_of_ble_eq_true rfl) dX10_torn_34 ?_
            refine r_icmp_ge 87 dX10_torn_37 (by decide) (fun h37 => absurd h37 (fun q => absurd ((nI_leI (by omega) (by omega)).mp q) (by omega))) (fun h37 => ?_)
            refine r_aload_n dX10_torn_40 rfl ?_
            refine r_cVp (As := []) (c_X10_livesAsTold s α _ _ hs hD x1 hP c1) lk_10_205 rfl rfl (by decide) (by decide) rfl rfl (Nat.le_of_ble_eq_true rfl) dX10_torn_41 (fun v41 I41 L41 q41 => ?_)
            obtain ⟨rfl, rfl, f41, l41⟩ := q41
            have l41 := l41 ht
            have c41 := c1.live f41
            have x41 := (cfr.live f41).st x1 (by decide)
            refine r_if_eq 74 dX10_torn_44 (by decide) (fun h44 => absurd h44 (fd_bn.mpr ht)) (fun h44 => ?_)
            refine r_aload_n dX10_torn_47 rfl ?_
            refine r_getR rfl rfl fl_10_43 dX10_torn_48 ?_
            refine r_aload_n dX10_torn_51 rfl ?_
            refine r_getR rfl rfl fl_10_18 dX10_torn_52 ?_
            refine r_getR rfl rfl fl_10_218 dX10_torn_55 ?_
            refine r_cVr (As := [_]) (c_X2_fitsDiary s α _ _ hs x41 hP c41.1.1 c41.2.1 l41) lk_10_221 rfl rfl (by decide) (by decide) rfl rfl (Nat.le_of_ble_eq_true rfl) dX10_torn_58 ?_
            refine r_if_eq 74 dX10_torn_61 (by decide) (fun h61 => ?_) (fun h61 => absurd h61 (not_not_intro (fd_b0.mpr hd)))
            refine r_aload_n dX10_torn_74 rfl ?_
            refine r_getR rfl rfl fl_10_43 dX10_torn_75 ?_
            refine r_cVq (As := []) (c_X2_goOn α _ _ r c41.1.1 hn7 hr1 c41.2.1) lk_10_183 rfl rfl (by decide) (by decide) rfl rfl (Nat.le_of_ble_eq_true rfl) dX10_torn_78 (fun I78 L78 q78 => ?_)
            obtain ⟨rfl, f78, o78⟩ := q78
            obtain ⟨g78, c78⟩ := go_next c1 f41 f78 o78
            refine r_iinc (v := _ + 1) (lv' := [(4, _), (3, _), (2, _), (0, _), (1, _)]) dX10_torn_81 rfl rfl (Nat.le_of_ble_eq_true rfl) rfl ?_
            refine r_goto (tgt := 28) dX10_torn_84 (by decide) ?_
            rw [nI_1]
            exact r_keep [4, 3, 2, 0, 1] rfl (ih _ (f1.trans g78) c78)
        · have hT : ¬ tnV s.1 s.2.1 s.2.2.1 s.2.2.2.1 r = true := by
            unfold tnV
            intro q
            rw [Bool.and_eq_true] at q
            exact ht q.1
          have e1 : cnN (tnV s.1 s.2.1 s.2.2.1 s.2.2.2.1) (r + 1) = cnN (tnV s.1 s.2.1 s.2.2.1 s.2.2.2.1) r := congrArg (fun z => cnN (tnV s.1 s.2.1 s.2.2.1 s.2.2.2.1) r + z) (if_neg hT)
          have e2 : faF (tnV s.1 s.2.1 s.2.2.1 s.2.2.2.1) (r + 1) = faF (tnV s.1 s.2.1 s.2.2.1 s.2.2.2.1) r := if_neg (fun q => hT q.1)
          rw [e1, e2] at ih
          refine r_iload dX10_torn_28 rfl ?_
          refine r_aload_n dX10_torn_30 rfl ?_
          refine r_getR rfl rfl fl_10_18 dX10_torn_31 ?_
          refine r_cVr (As := []) (c_X5_orders α _ _ x1.n hn7) lk_10_176 rfl rfl (by decide) (by decide) rfl rfl (Nat.le_of_ble_eq_true rfl) dX10_torn_34 ?_
          refine r_icmp_ge 87 dX10_torn_37 (by decide) (fun h37 => absurd h37 (fun q => absurd ((nI_leI (by omega) (by omega)).mp q) (by omega))) (fun h37 => ?_)
          refine r_aload_n dX10_torn_40 rfl ?_
          refine r_cVp (As := []) (c_X10_livesAsTold s α _ _ hs hD x1 hP c1) lk_10_205 rfl rfl (by decide) (by decide) rfl rfl (Nat.le_of_ble_eq_true rfl) dX10_torn_41 (fun v41 I41 L41 q41 => ?_)
          obtain ⟨rfl, rfl, f41, l41⟩ := q41
          have c41 := c1.live f41
          refine r_if_eq 74 dX10_torn_44 (by decide) (fun h44 => ?_) (fun h44 => absurd h44 (not_not_intro (fd_b0.mpr ht)))
          refine r_aload_n dX10_torn_74 rfl ?_
          refine r_getR rfl rfl fl_10_43 dX10_torn_75 ?_
          refine r_cVq (As := []) (c_X2_goOn α _ _ r c41.1.1 hn7 hr1 c41.2.1) lk_10_183 rfl rfl (by decide) (by decide) rfl rfl (Nat.le_of_ble_eq_true rfl) dX10_torn_78 (fun I78 L78 q78 => ?_)
          obtain ⟨rfl, f78, o78⟩ := q78
          obtain ⟨g78, c78⟩ := go_next c1 f41 f78 o78
          refine r_iinc (v := _ + 1) (lv' := [(4, _), (3, _), (2, _), (0, _), (1, _)]) dX10_torn_81 rfl rfl (Nat.le_of_ble_eq_true rfl) rfl ?_
          refine r_goto (tgt := 28) dX10_torn_84 (by decide) ?_
          rw [nI_1]
          exact r_keep [4, 3, 2, 0, 1] rfl (ih _ (f1.trans g78) c78)
    refine r_iload_n dX10_torn_0 rfl ?_
    refine r_if_lt 9 dX10_torn_1 (by decide) (fun h1 => absurd h1 (dayP_n0 hok)) (fun h1 => ?_)
    refine r_iload_n dX10_torn_4 rfl ?_
    refine r_iconst (v := 1) dX10_torn_5 rfl ?_
    refine r_icmp_le 16 dX10_torn_6 (by decide) (fun h6 => ?_) (fun h6 => absurd h6 (not_not_intro g1))
    refine r_iconst (v := 0) dX10_torn_16 rfl ?_
    refine r_istore_n (lv' := [(2, _), (0, _), (1, _)]) dX10_torn_17 (Nat.le_of_ble_eq_true rfl) rfl ?_
    refine r_iconst (v := (-1)) dX10_torn_18 rfl ?_
    refine r_istore_n (lv' := [(3, _), (2, _), (0, _), (1, _)]) dX10_torn_19 (Nat.le_of_ble_eq_true rfl) rfl ?_
    refine r_aload_n dX10_torn_20 rfl ?_
    refine r_iconst (v := 0) dX10_torn_21 rfl ?_
    refine r_cVq (As := [_]) (c_X10_follow s α _ _ 0 hs hx (fac_pos _)) lk_10_151 rfl rfl (by decide) (by decide) rfl rfl (Nat.le_of_ble_eq_true rfl) dX10_torn_22 (fun I22 L22 q22 => ?_)
    obtain ⟨rfl, f22, c22, l22⟩ := q22
    refine r_iconst (v := 0) dX10_torn_25 rfl ?_
    refine r_istore (lv' := [(4, _), (3, _), (2, _), (0, _), (1, _)]) dX10_torn_26 (Nat.le_of_ble_eq_true rfl) rfl ?_
    exact r_keep [4, 3, 2, 0, 1] rfl (loop 0 (by omega) _ f22 (fun _ => c22))
  · rw [if_neg hok]
    refine r_iload_n dX10_torn_0 rfl ?_
    refine r_if_lt 9 dX10_torn_1 (by decide) (fun h1 => ?_) (fun h1 => ?_)
    · refine r_aload_n dX10_torn_9 rfl ?_
      refine r_bipush (v := (-10)) dX10_torn_10 rfl ?_
      refine r_cVr (As := [_]) (c_X10_badAs α _ _ _) lk_10_111 rfl rfl (by decide) (by decide) rfl rfl (Nat.le_of_ble_eq_true rfl) dX10_torn_12 ?_
      refine r_iret rfl dX10_torn_15 ?_
      exact ⟨_, rfl, xOut.bad hx⟩
    · refine r_iload_n dX10_torn_4 rfl ?_
      refine r_iconst (v := 1) dX10_torn_5 rfl ?_
      refine r_icmp_le 16 dX10_torn_6 (by decide) (fun h6 => absurd h6 (fun q => hok (dayP_le (m := 1) (by decide) h1 q))) (fun h6 => ?_)
      refine r_aload_n dX10_torn_9 rfl ?_
      refine r_bipush (v := (-10)) dX10_torn_10 rfl ?_
      refine r_cVr (As := [_]) (c_X10_badAs α _ _ _) lk_10_111 rfl rfl (by decide) (by decide) rfl rfl (Nat.le_of_ble_eq_true rfl) dX10_torn_12 ?_
      refine r_iret rfl dX10_torn_15 ?_
      exact ⟨_, rfl, xOut.bad hx⟩
