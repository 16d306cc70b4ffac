/-! the class: must, best -/
def btI (x : Int32) (i : Nat) : Bool := x.toBitVec.getLsbD i
theorem btI_ext {x y : Int32} (h : ∀ i, i < 32 → btI x i = btI y i) : x = y := Int32.toBitVec_inj.mp (BitVec.eq_of_getLsbD_eq (fun i hi => h i hi))
theorem btI_or {x y : Int32} {i : Nat} : btI (x ||| y) i = (btI x i || btI y i) := BitVec.getLsbD_or
theorem btI_and {x y : Int32} {i : Nat} : btI (x &&& y) i = (btI x i && btI y i) := BitVec.getLsbD_and
theorem btI_xor {x y : Int32} {i : Nat} : btI (x ^^^ y) i = (btI x i ^^ btI y i) := BitVec.getLsbD_xor
theorem btI_n1 {i : Nat} (hi : i < 32) : btI (-1) i = true := by
  show (-1 : Int32).toBitVec.getLsbD i = true
  rw [show (-1 : Int32).toBitVec = BitVec.allOnes 32 from by decide, BitVec.getLsbD_allOnes]
  exact decide_eq_true hi
theorem btI_nI {k i : Nat} (hi : i < 32) : btI (nI k) i = k.testBit i := by
  show (BitVec.ofNat 32 k).getLsbD i = _
  rw [BitVec.getLsbD_ofNat, decide_eq_true hi, Bool.true_and]
theorem btI_sh {e i : Nat} (he : e < 31) (hi : i < 32) : btI (1 <<< (nI e &&& 31)) i = decide (e = i) := by rw [nI_shl1 he, btI_nI hi, Nat.testBit_two_pow]
theorem btI_mask {n i : Nat} (hn : n ≤ 7) (hi : i < 32) : btI (1 <<< (nI n &&& 31) - 1) i = decide (i < n) := by
  rw [nI_shl1 (by omega)]
  obtain ⟨m, hm⟩ : ∃ m, 2 ^ n = m + 1 := ⟨2 ^ n - 1, by have := Nat.two_pow_pos n; omega⟩
  rw [hm, nI_pred, btI_nI hi, show m = 2 ^ n - 1 by omega, Nat.testBit_two_pow_sub_one]
theorem btI_orN {f : Nat → Int32} {i : Nat} : ∀ k, btI (orN f k) i = orB (fun j => btI (f j) i) k := by
  intro k
  induction k with
  | zero => exact BitVec.getLsbD_zero
  | succ k ih => show btI (orN f k ||| f k) i = (_ || _); rw [btI_or, ih]
theorem heV_bit {p : Nat → Nat} {n d i : Nat} (hp : isP p n) (hd : d < n) (hn : n ≤ 7) (hi : i < 32) : btI (heV p n d) i = (decide (i < n) && decide (ps p n i < ps p n d)) := by
  have hdl := (ps_lt hp hd).1
  unfold heV
  rw [btI_orN, Bool.eq_iff_iff, orB_iff, Bool.and_eq_true, decide_eq_true_eq, decide_eq_true_eq]
  constructor
  · intro ⟨k, hk, h⟩
    have hpk := hp.1 k (by omega)
    rw [btI_sh (by omega) hi, decide_eq_true_eq] at h
    subst h
    exact ⟨hpk, by rw [ps_at hp k (by omega)]; exact hk⟩
  · intro ⟨h1, h2⟩
    refine ⟨_, h2, ?_⟩
    rw [(ps_lt hp h1).2, btI_sh (by omega) hi]
    exact decide_eq_true rfl
theorem muM_bit {p : Nat → Nat} {n d e i : Nat} (he : e < 31) (hi : i < 32) : btI (muM p n d e) i = (decide (ps p n e < ps p n d) || !decide (e = i)) := by
  unfold muM
  split
  · next h => rw [btI_n1 hi, decide_eq_true h]; rfl
  · next h => rw [btI_xor, btI_sh he hi, btI_n1 hi, decide_eq_false h, Bool.xor_true]; rfl
theorem muI_bit {p : Nat → Nat} {n d i : Nat} {S : Int32} (hi : i < 32) : ∀ k, k < 31 → btI (muI p n d S k) i = (btI S i && anB (fun e => decide (ps p n e < ps p n d) || !decide (e = i)) k) := by
  intro k
  induction k with
  | zero => intro _; show btI S i = (_ && true); rw [Bool.and_true]
  | succ k ih =>
    intro hk
    show btI (muI p n d S k &&& muM p n d k) i = (_ && (_ && _))
    rw [btI_and, ih (by omega), muM_bit (by omega) hi, Bool.and_assoc]
theorem muI_he {p : Nat → Nat} {n d : Nat} {S : Int32} (hp : isP p n) (hd : d < n) (hn : n ≤ 7) (hS : ∀ i, i < 32 → btI S i = true → i < n) : muI p n d S n = S &&& heV p n d := by
  refine btI_ext fun i hi => ?_
  rw [muI_bit hi n (by omega), btI_and, heV_bit hp hd hn hi]
  cases hb : btI S i with
  | false => rfl
  | true =>
    have hin := hS i hi hb
    rw [decide_eq_true hin, Bool.true_and, Bool.true_and, Bool.true_and, Bool.eq_iff_iff, anB_iff, decide_eq_true_eq]
    constructor
    · intro h
      have := h i hin
      rw [decide_eq_true (rfl : i = i), Bool.not_true, Bool.or_false, decide_eq_true_eq] at this
      exact this
    · intro h e he
      by_cases q : e = i
      · subst q; rw [decide_eq_true h]; rfl
      · rw [decide_eq_false q]; exact Bool.or_true _
/-- the days ahead of d in all orders that hang together, of the first r; -1 if there is none -/
def maS (V : pV) (n nn np d : Nat) : Nat → Int32
  | 0 => -1
  | r + 1 => if hgV V n nn np r = true then maS V n nn np d r &&& heV (prm n r) n d else maS V n nn np d r
abbrev mkN (n : Nat) : Int32 := 1 <<< (nI n &&& 31) - 1
theorem heV_mask {p : Nat → Nat} {n d : Nat} (hp : isP p n) (hd : d < n) (hn : n ≤ 7) : heV p n d &&& mkN n = heV p n d := by
  refine btI_ext fun i hi => ?_
  rw [btI_and, heV_bit hp hd hn hi, btI_mask hn hi]
  cases decide (i < n) <;> simp
theorem mu_ma {V : pV} {n nn np d : Nat} (hn7 : 1 ≤ n ∧ n ≤ 7) (hd : d < n) : ∀ r, r ≤ fac n → muS V n nn np d r = maS V n nn np d r &&& mkN n ∧ (orB (hgV V n nn np) r = true → maS V n nn np d r &&& mkN n = maS V n nn np d r) ∧ (orB (hgV V n nn np) r = false → maS V n nn np d r = -1) := by
  intro r
  induction r with
  | zero => intro _; exact ⟨Int32.neg_one_and.symm, fun q => (by cases q), fun _ => rfl⟩
  | succ r ih =>
    intro hr
    obtain ⟨h1, h2, h3⟩ := ih (by omega)
    have hP := prm_P hn7 (show r < fac n by omega)
    by_cases hg : hgV V n nn np r = true
    · have e1 : maS V n nn np d (r + 1) = maS V n nn np d r &&& heV (prm n r) n d := if_pos hg
      have e2 : muS V n nn np d (r + 1) = muI (prm n r) n d (muS V n nn np d r) n := if_pos hg
      have e3 : maS V n nn np d (r + 1) &&& mkN n = maS V n nn np d (r + 1) := by rw [e1, Int32.and_assoc, heV_mask hP hd hn7.2]
      refine ⟨?_, fun _ => e3, fun q => ?_⟩
      · rw [e3, e1, e2, muI_he hP hd hn7.2 (fun i hi hb => ?_), h1, Int32.and_assoc, Int32.and_comm (mkN n), heV_mask hP hd hn7.2]
        rw [h1, btI_and, btI_mask hn7.2 hi, Bool.and_eq_true, decide_eq_true_eq] at hb
        exact hb.2
      · have q : (orB (hgV V n nn np) r || hgV V n nn np r) = false := q
        rw [hg, Bool.or_true] at q
        cases q
    · have e1 : maS V n nn np d (r + 1) = maS V n nn np d r := if_neg hg
      have e2 : muS V n nn np d (r + 1) = muS V n nn np d r := if_neg hg
      have e3 : orB (hgV V n nn np) (r + 1) = orB (hgV V n nn np) r := by
        show (_ || hgV V n nn np r) = _
        rw [Bool.eq_false_iff.mpr hg, Bool.or_false]
      rw [e1, e2, e3]
      exact ⟨h1, h2, h3⟩
theorem ma_n1 {x : Int32} {n : Nat} (hn : n ≤ 7) (h : x &&& mkN n = x) : ¬ x = -1 := by
  intro q
  have h2 : btI (x &&& mkN n) 31 = btI x 31 := by rw [h]
  rw [btI_and, btI_mask hn (by decide), decide_eq_false (by omega), Bool.and_false, q, btI_n1 (by decide)] at h2
  cases h2
def o_must (s : pS) (d : Int32) : oT := if dayP d s.2.1 then (if orB (hgV s.1 s.2.1 s.2.2.1 s.2.2.2.1) (fac s.2.1) = true then (muS s.1 s.2.1 s.2.2.1 s.2.2.2.1 d.toNatClampNeg (fac s.2.1), s, 3) else (-3, s, 1)) else (-2, s, 0)
theorem c_X10_must (s : pS) (α : Nat → Nat) (I : fdI) (L : fdL) (d : Int32) (hs : stOk s) (hD : stD s) (hx : xSt 8 s I) : Con fd_SX α yX10_must mX10_must [.ref (α 0), .int d] I L (fd_ip (xOut (o_must s d) I L)) := by
  refine Con.of (by decide) rfl (Nat.le_of_ble_eq_true rfl) ?_
  unfold o_must
  have hn7 := hs.n7
  have hf := fac_le hn7.2
  by_cases hok : dayP d s.2.1
  · rw [if_pos hok]
    obtain ⟨j, hj, rfl⟩ := dayP_nI hok
    rw [nI_clamp (by omega)]
    have loop : ∀ r, r ≤ fac s.2.1 → ∀ I1 : fdI, cfr I I1 → (r < fac s.2.1 → crX s.1 s.2.1 s.2.2.1 (prm s.2.1 r) I1) → Rn fd_SX α mX10_must 27 [(3, .int (nI r)), (2, .int (maS s.1 s.2.1 s.2.2.1 s.2.2.2.1 j r)), (0, .ref (α 0)), (1, .int (nI j))] [] I1 L (fd_ip (xOut (if orB (hgV s.1 s.2.1 s.2.2.1 s.2.2.2.1) (fac s.2.1) = true then (muS s.1 s.2.1 s.2.2.1 s.2.2.2.1 j (fac s.2.1), s, 3) else (-3, s, 1)) I L)) := by
      refine fd_down (fun r hr ih => ?_)
      intro I1 f1 c1
      have x1 := f1.st hx (by decide)
      by_cases hx2 : r = fac s.2.1
      · obtain ⟨u1, u2, u3⟩ := mu_ma (V := s.1) (nn := s.2.2.1) (np := s.2.2.2.1) hn7 hj (fac s.2.1) (Nat.le_refl _)
        by_cases ho : orB (hgV s.1 s.2.1 s.2.2.1 s.2.2.2.1) (fac s.2.1) = true
        · rw [if_pos ho, u1, u2 ho]
          rw [hx2]
          refine r_iload_n dX10_must_27 rfl ?_
          refine r_aload_n dX10_must_28 rfl ?_
          refine r_getR rfl rfl fl_10_18 dX10_must_29 ?_
          refine r_cVr (As := []) (c_X5_orders α _ _ x1.n hn7) lk_10_176 rfl rfl (by decide) (by decide) rfl rfl (Nat.le_of_ble_eq_true rfl) dX10_must_32 ?_
          refine r_icmp_ge 83 dX10_must_35 (by decide) (fun h35 => ?_) (fun h35 => absurd h35 (not_not_intro (Int32.le_refl _)))
          refine r_iload_n dX10_must_83 rfl ?_
          refine r_iconst (v := (-1)) dX10_must_84 rfl ?_
          refine r_icmp_ne 97 dX10_must_85 (by decide) (fun h85 => ?_) (fun h85 => absurd h85 (ma_n1 hn7.2 (u2 ho)))
          refine r_iload_n dX10_must_97 rfl ?_
          refine r_iret rfl dX10_must_98 ?_
          exact ⟨_, rfl, xOut.ask hx f1⟩
        · rw [if_neg ho]
          have u3 := u3 (Bool.eq_false_iff.mpr ho)
          rw [hx2, u3]
          refine r_iload_n dX10_must_27 rfl ?_
          refine r_aload_n dX10_must_28 rfl ?_
          refine r_getR rfl rfl fl_10_18 dX10_must_29 ?_
          refine r_cVr (As := []) (c_X5_orders α _ _ x1.n hn7) lk_10_176 rfl rfl (by decide) (by decide) rfl rfl (Nat.le_of_ble_eq_true rfl) dX10_must_32 ?_
          refine r_icmp_ge 83 dX10_must_35 (by decide) (fun h35 => ?_) (fun h35 => absurd h35 (not_not_intro (Int32.le_refl _)))
          refine r_iload_n dX10_must_83 rfl ?_
          refine r_iconst (v := (-1)) dX10_must_84 rfl ?_
          refine r_icmp_ne 97 dX10_must_85 (by decide) (fun h85 => absurd h85 (not_not_intro rfl)) (fun h85 => ?_)
          refine r_aload_n dX10_must_88 rfl ?_
          refine r_bipush (v := (-3)) dX10_must_89 rfl ?_
          refine r_cVr (As := [_]) (c_X10_counted α _ _ _) lk_10_91 rfl rfl (by decide) (by decide) rfl rfl (Nat.le_of_ble_eq_true rfl) dX10_must_91 ?_
          refine r_goto (tgt := 98) dX10_must_94 (by decide) ?_
          refine r_iret rfl dX10_must_98 ?_
          exact ⟨_, rfl, xOut.ref hx f1 rfl⟩
      · have hr1 : r < fac s.2.1 := by omega
        have c1 := c1 hr1
        have hP := prm_P hn7 hr1
        have ih := ih hr1
        have jn : ∀ I2 : fdI, (∀ a, a < 65 ∨ 67 < a → I2 a = I1 a) → ∀ v, v = maS s.1 s.2.1 s.2.2.1 s.2.2.2.1 j (r + 1) → Rn fd_SX α mX10_must 70 [(2, .int v), (3, .int (nI r)), (0, .ref (α 0)), (1, .int (nI j))] [] I2 L (fd_ip (xOut (if orB (hgV s.1 s.2.1 s.2.2.1 s.2.2.2.1) (fac s.2.1) = true then (muS s.1 s.2.1 s.2.2.1 s.2.2.2.1 j (fac s.2.1), s, 3) else (-3, s, 1)) I L)) := by
          intro I2 f2 v hv
          subst hv
          have c2 := c1.live f2
          refine r_aload_n dX10_must_70 rfl ?_
          refine r_getR rfl rfl fl_10_43 dX10_must_71 ?_
          refine r_cVq (As := []) (c_X2_goOn α _ _ r c2.1.1 hn7 hr1 c2.2.1) lk_10_183 rfl rfl (by decide) (by decide) rfl rfl (Nat.le_of_ble_eq_true rfl) dX10_must_74 (fun I74 L74 q74 => ?_)
          obtain ⟨rfl, f74, o74⟩ := q74
          obtain ⟨g74, c74⟩ := go_next c1 f2 f74 o74
          refine r_iinc (v := _ + 1) (lv' := [(3, _), (2, _), (0, _), (1, _)]) dX10_must_77 rfl rfl (Nat.le_of_ble_eq_true rfl) rfl ?_
          refine r_goto (tgt := 27) dX10_must_80 (by decide) ?_
          rw [nI_1]
          exact r_keep [3, 2, 0, 1] rfl (ih _ (f1.trans g74) c74)
        by_cases hg : hgV s.1 s.2.1 s.2.2.1 s.2.2.2.1 r = true
        · have ev : maS s.1 s.2.1 s.2.2.1 s.2.2.2.1 j (r + 1) = maS s.1 s.2.1 s.2.2.1 s.2.2.2.1 j r &&& heV (prm s.2.1 r) s.2.1 j := if_pos hg
          by_cases hz : maS s.1 s.2.1 s.2.2.1 s.2.2.2.1 j r = -1
          · have ev2 : heV (prm s.2.1 r) s.2.1 j = maS s.1 s.2.1 s.2.2.1 s.2.2.2.1 j (r + 1) := by rw [ev, hz, Int32.neg_one_and]
            refine r_iload_n dX10_must_27 rfl ?_
            refine r_aload_n dX10_must_28 rfl ?_
            refine r_getR rfl rfl fl_10_18 dX10_must_29 ?_
            refine r_cVr (As := []) (c_X5_orders α _ _ x1.n hn7) lk_10_176 rfl rfl (by decide) (by decide) rfl rfl (Nat.le_of_ble_eq_true rfl) dX10_must_32 ?_
            refine r_icmp_ge 83 dX10_must_35 (by decide) (fun h35 => absurd h35 (fun q => absurd ((nI_leI (by omega) (by omega)).mp q) (by omega))) (fun h35 => ?_)
            refine r_aload_n dX10_must_38 rfl ?_
            refine r_cVp (As := []) (c_X10_hangsTogether s α _ _ hs hD x1 hP c1) lk_10_179 rfl rfl (by decide) (by decide) rfl rfl (Nat.le_of_ble_eq_true rfl) dX10_must_39 (fun v39 I39 L39 q39 => ?_)
            obtain ⟨rfl, rfl, f39⟩ := q39
            have c39 := c1.live f39
            refine r_if_eq 70 dX10_must_42 (by decide) (fun h42 => absurd h42 (fd_bn.mpr hg)) (fun h42 => ?_)
            refine r_aload_n dX10_must_45 rfl ?_
            refine r_getR rfl rfl fl_10_43 dX10_must_46 ?_
            refine r_iload_n dX10_must_49 rfl ?_
            refine r_cVr (As := [_]) (c_X2_daysAheadOf α _ _ j hn7 hj hP c39.2.1 c39.2.2) lk_10_186 rfl rfl (by decide) (by decide) rfl rfl (Nat.le_of_ble_eq_true rfl) dX10_must_50 ?_
            refine r_istore (lv' := [(4, _), (3, _), (2, _), (0, _), (1, _)]) dX10_must_53 (Nat.le_of_ble_eq_true rfl) rfl ?_
            refine r_iload_n dX10_must_55 rfl ?_
            refine r_iconst (v := (-1)) dX10_must_56 rfl ?_
            refine r_icmp_ne 65 dX10_must_57 (by decide) (fun h57 => absurd h57 (not_not_intro hz)) (fun h57 => ?_)
            refine r_iload dX10_must_60 rfl ?_
            refine r_goto (tgt := 69) dX10_must_62 (by decide) ?_
            refine r_istore_n (lv' := [(2, _), (4, _), (3, _), (0, _), (1, _)]) dX10_must_69 (Nat.le_of_ble_eq_true rfl) rfl ?_
            exact r_keep [2, 3, 0, 1] rfl (jn _ f39 _ ev2)
          · refine r_iload_n dX10_must_27 rfl ?_
            refine r_aload_n dX10_must_28 rfl ?_
            refine r_getR rfl rfl fl_10_18 dX10_must_29 ?_
            refine r_cVr (As := []) (c_X5_orders α _ _ x1.n hn7) lk_10_176 rfl rfl (by decide) (by decide) rfl rfl (Nat.le_of_ble_eq_true rfl) dX10_must_32 ?_
            refine r_icmp_ge 83 dX10_must_35 (by decide) (fun h35 => absurd h35 (fun q => absurd ((nI_leI (by omega) (by omega)).mp q) (by omega))) (fun h35 => ?_)
            refine r_aload_n dX10_must_38 rfl ?_
            refine r_cVp (As := []) (c_X10_hangsTogether s α _ _ hs hD x1 hP c1) lk_10_179 rfl rfl (by decide) (by decide) rfl rfl (Nat.le_of_ble_eq_true rfl) dX10_must_39 (fun v39 I39 L39 q39 => ?_)
            obtain ⟨rfl, rfl, f39⟩ := q39
            have c39 := c1.live f39
            refine r_if_eq 70 dX10_must_42 (by decide) (fun h42 => absurd h42 (fd_bn.mpr hg)) (fun h42 => ?_)
            refine r_aload_n dX10_must_45 rfl ?_
            refine r_getR rfl rfl fl_10_43 dX10_must_46 ?_
            refine r_iload_n dX10_must_49 rfl ?_
            refine r_cVr (As := [_]) (c_X2_daysAheadOf α _ _ j hn7 hj hP c39.2.1 c39.2.2) lk_10_186 rfl rfl (by decide) (by decide) rfl rfl (Nat.le_of_ble_eq_true rfl) dX10_must_50 ?_
            refine r_istore (lv' := [(4, _), (3, _), (2, _), (0, _), (1, _)]) dX10_must_53 (Nat.le_of_ble_eq_true rfl) rfl ?_
            refine r_iload_n dX10_must_55 rfl ?_
            refine r_iconst (v := (-1)) dX10_must_56 rfl ?_
            refine r_icmp_ne 65 dX10_must_57 (by decide) (fun h57 => ?_) (fun h57 => absurd h57 hz)
            refine r_iload_n dX10_must_65 rfl ?_
            refine r_iload dX10_must_66 rfl ?_
            refine r_iand dX10_must_68 ?_
            refine r_istore_n (lv' := [(2, _), (4, _), (3, _), (0, _), (1, _)]) dX10_must_69 (Nat.le_of_ble_eq_true rfl) rfl ?_
            exact r_keep [2, 3, 0, 1] rfl (jn _ f39 _ ev.symm)
        · have ev : maS s.1 s.2.1 s.2.2.1 s.2.2.2.1 j (r + 1) = maS s.1 s.2.1 s.2.2.1 s.2.2.2.1 j r := if_neg hg
          refine r_iload_n dX10_must_27 rfl ?_
          refine r_aload_n dX10_must_28 rfl ?_
          refine r_getR rfl rfl fl_10_18 dX10_must_29 ?_
          refine r_cVr (As := []) (c_X5_orders α _ _ x1.n hn7) lk_10_176 rfl rfl (by decide) (by decide) rfl rfl (Nat.le_of_ble_eq_true rfl) dX10_must_32 ?_
          refine r_icmp_ge 83 dX10_must_35 (by decide) (fun h35 => absurd h35 (fun q => absurd ((nI_leI (by omega) (by omega)).mp q) (by omega))) (fun h35 => ?_)
          refine r_aload_n dX10_must_38 rfl ?_
          refine r_cVp (As := []) (c_X10_hangsTogether s α _ _ hs hD x1 hP c1) lk_10_179 rfl rfl (by decide) (by decide) rfl rfl (Nat.le_of_ble_eq_true rfl) dX10_must_39 (fun v39 I39 L39 q39 => ?_)
          obtain ⟨rfl, rfl, f39⟩ := q39
          refine r_if_eq 70 dX10_must_42 (by decide) (fun h42 => ?_) (fun h42 => absurd h42 (not_not_intro (fd_b0.mpr hg)))
          exact r_keep [2, 3, 0, 1] rfl (jn _ f39 _ ev.symm)
    refine r_aload_n dX10_must_0 rfl ?_
    refine r_getR rfl rfl fl_10_18 dX10_must_1 ?_
    refine r_iload_n dX10_must_4 rfl ?_
    refine r_cVr (As := [_]) (c_X5_hasDay α _ _ _ hx.n hn7) lk_10_144 rfl rfl (by decide) (by decide) rfl rfl (Nat.le_of_ble_eq_true rfl) dX10_must_5 ?_
    refine r_if_ne 18 dX10_must_8 (by decide) (fun h8 => ?_) (fun h8 => absurd h8 (fd_bn.mpr hok))
    refine r_iconst (v := (-1)) dX10_must_18 rfl ?_
    refine r_istore_n (lv' := [(2, _), (0, _), (1, _)]) dX10_must_19 (Nat.le_of_ble_eq_true rfl) rfl ?_
    refine r_aload_n dX10_must_20 rfl ?_
    refine r_iconst (v := 0) dX10_must_21 rfl ?_
    refine r_cVq (As := [_]) (c_X10_follow s α _ _ 0 hs hx (fac_pos _)) lk_10_151 rfl rfl (by decide) (by decide) rfl rfl (Nat.le_of_ble_eq_true rfl) dX10_must_22 (fun I22 L22 q22 => ?_)
    obtain ⟨rfl, f22, c22, l22⟩ := q22
    refine r_iconst (v := 0) dX10_must_25 rfl ?_
    refine r_istore_n (lv' := [(3, _), (2, _), (0, _), (1, _)]) dX10_must_26 (Nat.le_of_ble_eq_true rfl) rfl ?_
    exact r_keep [3, 2, 0, 1] rfl (loop 0 (by omega) _ f22 (fun _ => c22))
  · rw [if_neg hok]
    refine r_aload_n dX10_must_0 rfl ?_
    refine r_getR rfl rfl fl_10_18 dX10_must_1 ?_
    refine r_iload_n dX10_must_4 rfl ?_
    refine r_cVr (As := [_]) (c_X5_hasDay α _ _ _ hx.n hn7) lk_10_144 rfl rfl (by decide) (by decide) rfl rfl (Nat.le_of_ble_eq_true rfl) dX10_must_5 ?_
    refine r_if_ne 18 dX10_must_8 (by decide) (fun h8 => absurd h8 (not_not_intro (fd_b0.mpr hok))) (fun h8 => ?_)
    refine r_aload_n dX10_must_11 rfl ?_
    refine r_bipush (v := (-2)) dX10_must_12 rfl ?_
    refine r_cVr (As := [_]) (c_X10_counted α _ _ _) lk_10_91 rfl rfl (by decide) (by decide) rfl rfl (Nat.le_of_ble_eq_true rfl) dX10_must_14 ?_
    refine r_iret rfl dX10_must_17 ?_
    exact ⟨_, rfl, xOut.cn hx xFr.rfl' rfl rfl⟩
def o_best (s : pS) : oT := if (beV s.1 s.2.1 s.2.2.1 s.2.2.2.1).2 ≠ 0 then (nI (beV s.1 s.2.1 s.2.2.1 s.2.2.2.1).1, s, 3) else (-3, s, 1)
def bkI (x : Nat × Nat) : Int32 := if x.2 = 0 then -3 else nI x.1
theorem avI_g : ∀ m : Nat, m ≤ 8 → (-1 : Int32) ≤ avI m := by decide +kernel
theorem c_X10_best (s : pS) (α : Nat → Nat) (I : fdI) (L : fdL) (hs : stOk s) (hD : stD s) (hx : xSt 8 s I) : Con fd_SX α yX10_best mX10_best [.ref (α 0)] I L (fd_ip (xOut (o_best s) I L)) := by
  refine Con.of (by decide) rfl (Nat.le_of_ble_eq_true rfl) ?_
  have hn7 := hs.n7
  have hf := fac_le hn7.2
  have hwl : ∀ r, wlV s.1 s.2.1 s.2.2.1 r ≤ 7 := fun r => Nat.le_trans (cnN_le _ _) hn7.2
  have hbl := beF_le (tlV s.1 s.2.1 s.2.2.2.1) (wlV s.1 s.2.1 s.2.2.1) 7 hwl
  have loop : ∀ r, r ≤ fac s.2.1 → ∀ I1 : fdI, cfr I I1 → (r < fac s.2.1 → crX s.1 s.2.1 s.2.2.1 (prm s.2.1 r) I1) → Rn fd_SX α mX10_best 12 [(3, .int (nI r)), (2, .int (bkI (beF (tlV s.1 s.2.1 s.2.2.2.1) (wlV s.1 s.2.1 s.2.2.1) r))), (1, .int (avI (beF (tlV s.1 s.2.1 s.2.2.2.1) (wlV s.1 s.2.1 s.2.2.1) r).2)), (0, .ref (α 0))] [] I1 L (fd_ip (xOut (o_best s) I L)) := by
    refine fd_down (fun r hr ih => ?_)
    intro I1 f1 c1
    have x1 := f1.st hx (by decide)
    by_cases hx2 : r = fac s.2.1
    · unfold o_best beV
      rw [hx2]
      by_cases hz : (beF (tlV s.1 s.2.1 s.2.2.2.1) (wlV s.1 s.2.1 s.2.2.1) (fac s.2.1)).2 = 0
      · rw [if_neg (not_not_intro hz), show bkI (beF (tlV s.1 s.2.1 s.2.2.2.1) (wlV s.1 s.2.1 s.2.2.1) (fac s.2.1)) = -3 from if_pos hz]
        refine r_iload_n dX10_best_12 rfl ?_
        refine r_aload_n dX10_best_13 rfl ?_
        refine r_getR rfl rfl fl_10_18 dX10_best_14 ?_
        refine r_cVr (As := []) (c_X5_orders α _ _ x1.n hn7) lk_10_176 rfl rfl (by decide) (by decide) rfl rfl (Nat.le_of_ble_eq_true rfl) dX10_best_17 ?_
        refine r_icmp_ge 74 dX10_best_20 (by decide) (fun h20 => ?_) (fun h20 => absurd h20 (not_not_intro (Int32.le_refl _)))
        refine r_aload_n dX10_best_74 rfl ?_
        refine r_iload_n dX10_best_75 rfl ?_
        refine r_cVr (As := [_]) (c_X10_counted α _ _ _) lk_10_91 rfl rfl (by decide) (by decide) rfl rfl (Nat.le_of_ble_eq_true rfl) dX10_best_76 ?_
        refine r_iret rfl dX10_best_79 ?_
        exact ⟨_, rfl, xOut.ref hx f1 rfl⟩
      · have hlt := beF_lt (tlV s.1 s.2.1 s.2.2.2.1) (wlV s.1 s.2.1 s.2.2.1) _ hz
        rw [if_pos hz, show bkI (beF (tlV s.1 s.2.1 s.2.2.2.1) (wlV s.1 s.2.1 s.2.2.1) (fac s.2.1)) = nI (beF (tlV s.1 s.2.1 s.2.2.2.1) (wlV s.1 s.2.1 s.2.2.1) (fac s.2.1)).1 from if_neg hz]
        refine r_iload_n dX10_best_12 rfl ?_
        refine r_aload_n dX10_best_13 rfl ?_
        refine r_getR rfl rfl fl_10_18 dX10_best_14 ?_
        refine r_cVr (As := []) (c_X5_orders α _ _ x1.n hn7) lk_10_176 rfl rfl (by decide) (by decide) rfl rfl (Nat.le_of_ble_eq_true rfl) dX10_best_17 ?_
        refine r_icmp_ge 74 dX10_best_20 (by decide) (fun h20 => ?_) (fun h20 => absurd h20 (not_not_intro (Int32.le_refl _)))
        refine r_aload_n dX10_best_74 rfl ?_
        refine r_iload_n dX10_best_75 rfl ?_
        refine r_cVr (As := [_]) (c_X10_counted α _ _ _) lk_10_91 rfl rfl (by decide) (by decide) rfl rfl (Nat.le_of_ble_eq_true rfl) dX10_best_76 ?_
        refine r_iret rfl dX10_best_79 ?_
        exact ⟨_, rfl, xOut.ref hx f1 (nI_q (by omega))⟩
    · have hr1 : r < fac s.2.1 := by omega
      have c1 := c1 hr1
      have hP := prm_P hn7 hr1
      have ih := ih hr1
      have hb1 := hbl r
      have hw1 := hwl r
      by_cases ht : tlV s.1 s.2.1 s.2.2.2.1 r = true
      · by_cases hm : (beF (tlV s.1 s.2.1 s.2.2.2.1) (wlV s.1 s.2.1 s.2.2.1) r).2 < wlV s.1 s.2.1 s.2.2.1 r + 1
        · have ev : beF (tlV s.1 s.2.1 s.2.2.2.1) (wlV s.1 s.2.1 s.2.2.1) (r + 1) = (r, wlV s.1 s.2.1 s.2.2.1 r + 1) := if_pos ⟨ht, hm⟩
          rw [ev] at ih
          refine r_iload_n dX10_best_12 rfl ?_
          refine r_aload_n dX10_best_13 rfl ?_
          refine r_getR rfl rfl fl_10_18 dX10_best_14 ?_
          refine r_cVr (As := []) (c_X5_orders α _ _ x1.n hn7) lk_10_176 rfl rfl (by decide) (by decide) rfl rfl (Nat.le_of_ble_eq_true rfl) dX10_best_17 ?_
          refine r_icmp_ge 74 dX10_best_20 (by decide) (fun h20 => absurd h20 (fun q => absurd ((nI_leI (by omega) (by omega)).mp q) (by omega))) (fun h20 => ?_)
          refine r_aload_n dX10_best_23 rfl ?_
          refine r_cVp (As := []) (c_X10_livesAsTold s α _ _ hs hD x1 hP c1) lk_10_205 rfl rfl (by decide) (by decide) rfl rfl (Nat.le_of_ble_eq_true rfl) dX10_best_24 (fun v24 I24 L24 q24 => ?_)
          obtain ⟨rfl, rfl, f24, l24⟩ := q24
          have l24 := l24 ht
          have c24 := c1.live f24
          have x24 := (cfr.live f24).st x1 (by decide)
          refine r_if_eq 47 dX10_best_27 (by decide) (fun h27 => absurd h27 (fd_bn.mpr ht)) (fun h27 => ?_)
          refine r_aload_n dX10_best_30 rfl ?_
          refine r_getR rfl rfl fl_10_43 dX10_best_31 ?_
          refine r_aload_n dX10_best_34 rfl ?_
          refine r_getR rfl rfl fl_10_18 dX10_best_35 ?_
          refine r_getV rfl rfl fl_10_170 dX10_best_38 x24.n ?_
          refine r_cVr (As := [_]) (c_X2_wellAmong s.1 (knV s.1 s.2.1 s.2.2.1 (prm s.2.1 r)) α _ _ s.2.1 hn7 (Nat.le_refl _) hP c24.1 c24.2.1 l24.k) lk_10_173 rfl rfl (by decide) (by decide) rfl rfl (Nat.le_of_ble_eq_true rfl) dX10_best_41 ?_
          rw [wlN_perm hP]
          refine r_goto (tgt := 48) dX10_best_44 (by decide) ?_
          refine r_istore (lv' := [(4, _), (3, _), (2, _), (1, _), (0, _)]) dX10_best_48 (Nat.le_of_ble_eq_true rfl) rfl ?_
          refine r_iload dX10_best_50 rfl ?_
          refine r_iload_n dX10_best_52 rfl ?_
          refine r_icmp_le 61 dX10_best_53 (by decide) (fun h53 => absurd h53 (fun q => (cmpAv _ hw1 _ hb1).mp q hm)) (fun h53 => ?_)
          refine r_iload dX10_best_56 rfl ?_
          refine r_istore_n (lv' := [(1, _), (4, _), (3, _), (2, _), (0, _)]) dX10_best_58 (Nat.le_of_ble_eq_true rfl) rfl ?_
          refine r_iload_n dX10_best_59 rfl ?_
          refine r_istore_n (lv' := [(2, _), (1, _), (4, _), (3, _), (0, _)]) dX10_best_60 (Nat.le_of_ble_eq_true rfl) rfl ?_
          refine r_aload_n dX10_best_61 rfl ?_
          refine r_getR rfl rfl fl_10_43 dX10_best_62 ?_
          refine r_cVq (As := []) (c_X2_goOn α _ _ r c24.1.1 hn7 hr1 c24.2.1) lk_10_183 rfl rfl (by decide) (by decide) rfl rfl (Nat.le_of_ble_eq_true rfl) dX10_best_65 (fun I65 L65 q65 => ?_)
          obtain ⟨rfl, f65, o65⟩ := q65
          obtain ⟨g65, c65⟩ := go_next c1 f24 f65 o65
          refine r_iinc (v := _ + 1) (lv' := [(3, _), (2, _), (1, _), (4, _), (0, _)]) dX10_best_68 rfl rfl (Nat.le_of_ble_eq_true rfl) rfl ?_
          refine r_goto (tgt := 12) dX10_best_71 (by decide) ?_
          rw [nI_1]
          exact r_keep [3, 2, 1, 0] rfl (ih _ (f1.trans g65) c65)
        · have ev : beF (tlV s.1 s.2.1 s.2.2.2.1) (wlV s.1 s.2.1 s.2.2.1) (r + 1) = beF (tlV s.1 s.2.1 s.2.2.2.1) (wlV s.1 s.2.1 s.2.2.1) r := if_neg (fun q => hm q.2)
          rw [ev] at ih
          refine r_iload_n dX10_best_12 rfl ?_
          refine r_aload_n dX10_best_13 rfl ?_
          refine r_getR rfl rfl fl_10_18 dX10_best_14 ?_
          refine r_cVr (As := []) (c_X5_orders α _ _ x1.n hn7) lk_10_176 rfl rfl (by decide) (by decide) rfl rfl (Nat.le_of_ble_eq_true rfl) dX10_best_17 ?_
          refine r_icmp_ge 74 dX10_best_20 (by decide) (fun h20 => absurd h20 (fun q => absurd ((nI_leI (by omega) (by omega)).mp q) (by omega))) (fun h20 => ?_)
          refine r_aload_n dX10_best_23 rfl ?_
          refine r_cVp (As := []) (c_X10_livesAsTold s α _ _ hs hD x1 hP c1) lk_10_205 rfl rfl (by decide) (by decide) rfl rfl (Nat.le_of_ble_eq_true rfl) dX10_best_24 (fun v24 I24 L24 q24 => ?_)
          obtain ⟨rfl, rfl, f24, l24⟩ := q24
          have l24 := l24 ht
          have c24 := c1.live f24
          have x24 := (cfr.live f24).st x1 (by decide)
          refine r_if_eq 47 dX10_best_27 (by decide) (fun h27 => absurd h27 (fd_bn.mpr ht)) (fun h27 => ?_)
          refine r_aload_n dX10_best_30 rfl ?_
          refine r_getR rfl rfl fl_10_43 dX10_best_31 ?_
          refine r_aload_n dX10_best_34 rfl ?_
          refine r_getR rfl rfl fl_10_18 dX10_best_35 ?_
          refine r_getV rfl rfl fl_10_170 dX10_best_38 x24.n ?_
          refine r_cVr (As := [_]) (c_X2_wellAmong s.1 (knV s.1 s.2.1 s.2.2.1 (prm s.2.1 r)) α _ _ s.2.1 hn7 (Nat.le_refl _) hP c24.1 c24.2.1 l24.k) lk_10_173 rfl rfl (by decide) (by decide) rfl rfl (Nat.le_of_ble_eq_true rfl) dX10_best_41 ?_
          rw [wlN_perm hP]
          refine r_goto (tgt := 48) dX10_best_44 (by decide) ?_
          refine r_istore (lv' := [(4, _), (3, _), (2, _), (1, _), (0, _)]) dX10_best_48 (Nat.le_of_ble_eq_true rfl) rfl ?_
          refine r_iload dX10_best_50 rfl ?_
          refine r_iload_n dX10_best_52 rfl ?_
          refine r_icmp_le 61 dX10_best_53 (by decide) (fun h53 => ?_) (fun h53 => absurd h53 (not_not_intro ((cmpAv _ hw1 _ hb1).mpr hm)))
          refine r_aload_n dX10_best_61 rfl ?_
          refine r_getR rfl rfl fl_10_43 dX10_best_62 ?_
          refine r_cVq (As := []) (c_X2_goOn α _ _ r c24.1.1 hn7 hr1 c24.2.1) lk_10_183 rfl rfl (by decide) (by decide) rfl rfl (Nat.le_of_ble_eq_true rfl) dX10_best_65 (fun I65 L65 q65 => ?_)
          obtain ⟨rfl, f65, o65⟩ := q65
          obtain ⟨g65, c65⟩ := go_next c1 f24 f65 o65
          refine r_iinc (v := _ + 1) (lv' := [(3, _), (4, _), (2, _), (1, _), (0, _)]) dX10_best_68 rfl rfl (Nat.le_of_ble_eq_true rfl) rfl ?_
          refine r_goto (tgt := 12) dX10_best_71 (by decide) ?_
          rw [nI_1]
          exact r_keep [3, 2, 1, 0] rfl (ih _ (f1.trans g65) c65)
      · have ev : beF (tlV s.1 s.2.1 s.2.2.2.1) (wlV s.1 s.2.1 s.2.2.1) (r + 1) = beF (tlV s.1 s.2.1 s.2.2.2.1) (wlV s.1 s.2.1 s.2.2.1) r := if_neg (fun q => ht q.1)
        rw [ev] at ih
        refine r_iload_n dX10_best_12 rfl ?_
        refine r_aload_n dX10_best_13 rfl ?_
        refine r_getR rfl rfl fl_10_18 dX10_best_14 ?_
        refine r_cVr (As := []) (c_X5_orders α _ _ x1.n hn7) lk_10_176 rfl rfl (by decide) (by decide) rfl rfl (Nat.le_of_ble_eq_true rfl) dX10_best_17 ?_
        refine r_icmp_ge 74 dX10_best_20 (by decide) (fun h20 => absurd h20 (fun q => absurd ((nI_leI (by omega) (by omega)).mp q) (by omega))) (fun h20 => ?_)
        refine r_aload_n dX10_best_23 rfl ?_
        refine r_cVp (As := []) (c_X10_livesAsTold s α _ _ hs hD x1 hP c1) lk_10_205 rfl rfl (by decide) (by decide) rfl rfl (Nat.le_of_ble_eq_true rfl) dX10_best_24 (fun v24 I24 L24 q24 => ?_)
        obtain ⟨rfl, rfl, f24, l24⟩ := q24
        have c24 := c1.live f24
        refine r_if_eq 47 dX10_best_27 (by decide) (fun h27 => ?_) (fun h27 => absurd h27 (not_not_intro (fd_b0.mpr ht)))
        refine r_iconst (v := (-1)) dX10_best_47 rfl ?_
        refine r_istore (lv' := [(4, _), (3, _), (2, _), (1, _), (0, _)]) dX10_best_48 (Nat.le_of_ble_eq_true rfl) rfl ?_
        refine r_iload dX10_best_50 rfl ?_
        refine r_iload_n dX10_best_52 rfl ?_
        refine r_icmp_le 61 dX10_best_53 (by decide) (fun h53 => ?_) (fun h53 => absurd h53 (not_not_intro (avI_g _ hb1)))
        refine r_aload_n dX10_best_61 rfl ?_
        refine r_getR rfl rfl fl_10_43 dX10_best_62 ?_
        refine r_cVq (As := []) (c_X2_goOn α _ _ r c24.1.1 hn7 hr1 c24.2.1) lk_10_183 rfl rfl (by decide) (by decide) rfl rfl (Nat.le_of_ble_eq_true rfl) dX10_best_65 (fun I65 L65 q65 => ?_)
        obtain ⟨rfl, f65, o65⟩ := q65
        obtain ⟨g65, c65⟩ := go_next c1 f24 f65 o65
        refine r_iinc (v := _ + 1) (lv' := [(3, _), (4, _), (2, _), (1, _), (0, _)]) dX10_best_68 rfl rfl (Nat.le_of_ble_eq_true rfl) rfl ?_
        refine r_goto (tgt := 12) dX10_best_71 (by decide) ?_
        rw [nI_1]
        exact r_keep [3, 2, 1, 0] rfl (ih _ (f1.trans g65) c65)
  refine r_iconst (v := (-1)) dX10_best_0 rfl ?_
  refine r_istore_n (lv' := [(1, _), (0, _)]) dX10_best_1 (Nat.le_of_ble_eq_true rfl) rfl ?_
  refine r_bipush (v := (-3)) dX10_best_2 rfl ?_
  refine r_istore_n (lv' := [(2, _), (1, _), (0, _)]) dX10_best_4 (Nat.le_of_ble_eq_true rfl) rfl ?_
  refine r_aload_n dX10_best_5 rfl ?_
  refine r_iconst (v := 0) dX10_best_6 rfl ?_
  refine r_cVq (As := [_]) (c_X10_follow s α _ _ 0 hs hx (fac_pos _)) lk_10_151 rfl rfl (by decide) (by decide) rfl rfl (Nat.le_of_ble_eq_true rfl) dX10_best_7 (fun I7 L7 q7 => ?_)
  obtain ⟨rfl, f7, c7, l7⟩ := q7
  refine r_iconst (v := 0) dX10_best_10 rfl ?_
  refine r_istore_n (lv' := [(3, _), (2, _), (1, _), (0, _)]) dX10_best_11 (Nat.le_of_ble_eq_true rfl) rfl ?_
  exact r_keep [3, 2, 1, 0] rfl (loop 0 (by omega) _ f7 (fun _ => c7))
