/-! the model: questions about all orders -/
/-- the i-th for which f holds, or how many; of m from r on, with k found so far -/
def hgF (f : Nat → Bool) (i : Int32) : Nat → Nat → Nat → Int32
  | 0, _, k => if i = -1 then nI k else -5
  | m + 1, r, k => if f r then (if nI k = i then nI r else hgF f i m (r + 1) (k + 1)) else hgF f i m (r + 1) k
def hgV (V : pV) (n nn np : Nat) (r : Nat) : Bool := hgB V n nn np (prm n r)
theorem c_X11_hang (V : pV) (α : Nat → Nat) (I : fdI) (L : fdL) (i : Int32) {n nn np nt : Nat} (h : mOk V I n nn np nt) : Con fd_SM α yX11_hang mX11_hang [.ref (α 0), .int i] I L (fd_ip (qsP (-1 ≤ i) (hgF (hgV V n nn np) i (fac n) 0 0) (-10) I L)) := by
  refine Con.of (by decide) rfl (Nat.le_of_ble_eq_true rfl) ?_
  have hn7 := h.2.1
  have hf := fac_le hn7.2
  by_cases hok : -1 ≤ i
  · have loop : ∀ m r k, r + m = fac n → k ≤ r → ∀ I1 : fdI, trI I I1 n r → ∀ L1 : fdL, L1 = L → Rn fd_SM α mX11_hang 23 [(3, .int (nI r)), (2, .int (nI k)), (0, .ref (α 0)), (1, .int i)] [] I1 L1 (fd_ip (qsP (-1 ≤ i) (hgF (hgV V n nn np) i m r k) (-10) I L)) := by
      intro m
      induction m with
      | zero =>
        intro r k hr hk I1 t1 L1 e1
        have h1 := h.sm t1.1
        have : r = fac n := by omega
        subst this
        refine r_iload_n dX11_hang_23 rfl ?_
        refine r_aload_n dX11_hang_24 rfl ?_
        refine r_cVr (As := []) (c_X11_orders α _ _ h1.1 hn7) lk_11_147 rfl rfl (by decide) (by decide) rfl rfl (Nat.le_of_ble_eq_true rfl) dX11_hang_25 ?_
        refine r_icmp_ge 70 dX11_hang_28 (by decide) (fun h28 => ?_) (fun h28 => absurd h28 (not_not_intro (Int32.le_refl _)))
        refine r_iload_n dX11_hang_70 rfl ?_
        refine r_iconst (v := (-1)) dX11_hang_71 rfl ?_
        refine r_icmp_ne 79 dX11_hang_72 (by decide) (fun h72 => ?_) (fun h72 => ?_)
        · have ev : hgF (hgV V n nn np) i 0 (fac n) k = -5 := if_neg h72
          rw [ev]
          refine r_bipush (v := (-5)) dX11_hang_79 rfl ?_
          refine r_iret rfl dX11_hang_81 ?_
          exact ⟨_, rfl, qsP.yes hok e1 rfl t1.1⟩
        · have ev : hgF (hgV V n nn np) i 0 (fac n) k = nI k := if_pos h72
          rw [ev]
          refine r_iload_n dX11_hang_75 rfl ?_
          refine r_goto (tgt := 81) dX11_hang_76 (by decide) ?_
          refine r_iret rfl dX11_hang_81 ?_
          exact ⟨_, rfl, qsP.yes hok e1 rfl t1.1⟩
      | succ m ih =>
        intro r k hr hk I1 t1 L1 e1
        have h1 := h.sm t1.1
        have hr1 : r < fac n := by omega
        have go : ∀ k2, k2 ≤ r + 1 → hgF (hgV V n nn np) i m (r + 1) k2 = hgF (hgV V n nn np) i (m + 1) r k → ∀ I2 : fdI, trI I I2 n r → ∀ L2 : fdL, L2 = L → Rn fd_SM α mX11_hang 56 [(3, .int (nI r)), (2, .int (nI k2)), (0, .ref (α 0)), (1, .int i)] [] I2 L2 (fd_ip (qsP (-1 ≤ i) (hgF (hgV V n nn np) i (m + 1) r k) (-10) I L)) := by
          intro k2 hk2 he I2 t2 L2 e2
          rw [← he]
          refine r_aload_n dX11_hang_56 rfl ?_
          refine r_aload_n dX11_hang_57 rfl ?_
          refine r_getR rfl rfl fl_11_58 dX11_hang_58 ?_
          refine r_cVq (As := [_]) (c_turns α I _ _ (h.sm t2.1).1 hn7 hr1 t2) lk_11_184 rfl rfl (by decide) (by decide) rfl rfl (Nat.le_of_ble_eq_true rfl) dX11_hang_61 (fun I61 L61 q61 => ?_)
          obtain ⟨e61, s61, w61⟩ := q61
          refine r_iinc (v := _ + 1) (lv' := [(3, _), (2, _), (0, _), (1, _)]) dX11_hang_64 rfl rfl (Nat.le_of_ble_eq_true rfl) rfl ?_
          refine r_goto (tgt := 23) dX11_hang_67 (by decide) ?_
          rw [nI_1]
          exact r_keep [3, 2, 0, 1] rfl (ih (r + 1) k2 (by omega) hk2 _ s61 _ (e61.trans e2))
        refine r_iload_n dX11_hang_23 rfl ?_
        refine r_aload_n dX11_hang_24 rfl ?_
        refine r_cVr (As := []) (c_X11_orders α _ _ h1.1 hn7) lk_11_147 rfl rfl (by decide) (by decide) rfl rfl (Nat.le_of_ble_eq_true rfl) dX11_hang_25 ?_
        refine r_icmp_ge 70 dX11_hang_28 (by decide) (fun h28 => absurd h28 (fun q => absurd ((nI_leI (by omega) (by omega)).mp q) (by omega))) (fun h28 => ?_)
        refine r_aload_n dX11_hang_31 rfl ?_
        refine r_aload_n dX11_hang_32 rfl ?_
        refine r_getR rfl rfl fl_11_58 dX11_hang_33 ?_
        refine r_cVq (As := [_]) (c_lives V α _ _ 17 rfl (Or.inr rfl) h1 (t1.2 hr1) (prm_P hn7 hr1)) lk_11_170 rfl rfl (by decide) (by decide) rfl rfl (Nat.le_of_ble_eq_true rfl) dX11_hang_36 (fun I36 L36 q36 => ?_)
        obtain ⟨e36, s36, t36, w36⟩ := q36
        refine r_aload_n dX11_hang_39 rfl ?_
        refine r_cVr (As := []) (c_doesHang V α _ _ (h1.sm s36) w36 (prm_P hn7 hr1)) lk_11_181 rfl rfl (by decide) (by decide) rfl rfl (Nat.le_of_ble_eq_true rfl) dX11_hang_40 ?_
        refine r_if_eq 56 dX11_hang_43 (by decide) (fun h43 => ?_) (fun h43 => ?_)
        · have ev : hgF (hgV V n nn np) i m (r + 1) k = hgF (hgV V n nn np) i (m + 1) r k := (if_neg (fd_b0.mp h43)).symm
          exact r_keep [3, 2, 0, 1] rfl (go _ (by omega) ev _ (t1.lives s36 t36.1) _ (e36.trans e1))
        · have z : hgV V n nn np r = true := fd_bn.mp h43
          refine r_iload_n dX11_hang_46 rfl ?_
          refine r_iload_n dX11_hang_47 rfl ?_
          refine r_icmp_ne 53 dX11_hang_48 (by decide) (fun h48 => ?_) (fun h48 => ?_)
          · have ev : hgF (hgV V n nn np) i m (r + 1) (k + 1) = hgF (hgV V n nn np) i (m + 1) r k := by
              show _ = if hgV V n nn np r = true then _ else _
              rw [if_pos z, if_neg h48]
            refine r_iinc (v := _ + 1) (lv' := [(2, _), (3, _), (0, _), (1, _)]) dX11_hang_53 rfl rfl (Nat.le_of_ble_eq_true rfl) rfl ?_
            rw [nI_1]
            exact r_keep [3, 2, 0, 1] rfl (go _ (by omega) ev _ (t1.lives s36 t36.1) _ (e36.trans e1))
          · have ev : nI r = hgF (hgV V n nn np) i (m + 1) r k := by
              show _ = if hgV V n nn np r = true then _ else _
              rw [if_pos z, if_pos h48]
            refine r_iload_n dX11_hang_51 rfl ?_
            refine r_iret rfl dX11_hang_52 ?_
            rw [← ev]
            exact ⟨_, rfl, qsP.yes hok (e36.trans e1) rfl (t1.1.trans s36)⟩
    refine r_iload_n dX11_hang_0 rfl ?_
    refine r_iconst (v := (-1)) dX11_hang_1 rfl ?_
    refine r_icmp_ge 12 dX11_hang_2 (by decide) (fun h2 => ?_) (fun h2 => absurd h2 (not_not_intro hok))
    refine r_iconst (v := 0) dX11_hang_12 rfl ?_
    refine r_istore_n (lv' := [(2, _), (0, _), (1, _)]) dX11_hang_13 (Nat.le_of_ble_eq_true rfl) rfl ?_
    refine r_aload_n dX11_hang_14 rfl ?_
    refine r_getR rfl rfl fl_11_58 dX11_hang_15 ?_
    refine r_cSq (As := [_]) (c_starts α _ _ hn7) lk_11_178 (by decide) (by decide) rfl rfl (Nat.le_of_ble_eq_true rfl) dX11_hang_18 (fun I18 L18 q18 => ?_)
    obtain ⟨e18, s18⟩ := q18
    refine r_iconst (v := 0) dX11_hang_21 rfl ?_
    refine r_istore_n (lv' := [(3, _), (2, _), (0, _), (1, _)]) dX11_hang_22 (Nat.le_of_ble_eq_true rfl) rfl ?_
    exact r_keep [3, 2, 0, 1] rfl (loop (fac n) 0 0 (by omega) (by omega) _ s18 _ e18)
  · refine r_iload_n dX11_hang_0 rfl ?_
    refine r_iconst (v := (-1)) dX11_hang_1 rfl ?_
    refine r_icmp_ge 12 dX11_hang_2 (by decide) (fun h2 => absurd h2 hok) (fun h2 => ?_)
    refine r_aload_n dX11_hang_5 rfl ?_
    refine r_bipush (v := (-10)) dX11_hang_6 rfl ?_
    refine r_cVr (As := [_]) (c_X11_bad α _ _ _) lk_11_120 rfl rfl (by decide) (by decide) rfl rfl (Nat.le_of_ble_eq_true rfl) dX11_hang_8 ?_
    refine r_iret rfl dX11_hang_11 ?_
    exact ⟨_, rfl, qsP.no hok⟩
/-- an answer without arguments that may be NO -/
def qnP (c : Prop) (r : Int32) (I : fdI) (L : fdL) (v : Value) (I' : fdI) (L' : fdL) : Prop := L' = L ∧ (c → v = .int r ∧ mSm I I') ∧ (¬ c → v = .int (-3) ∧ ∃ J, mSm I J ∧ I' = mNo J)
/-- the best of the first k orders: its rank, and how well less -1; nothing is 0 -/
def beF (f : Nat → Bool) (w : Nat → Nat) : Nat → Nat × Nat
  | 0 => (0, 0)
  | k + 1 => if f k = true ∧ (beF f w k).2 < w k + 1 then (k, w k + 1) else beF f w k
def tlV (V : pV) (n np : Nat) (r : Nat) : Bool := tlB V n np (prm n r)
def wlV (V : pV) (n nn : Nat) (r : Nat) : Nat := wlN V n nn (prm n r)
def beV (V : pV) (n nn np : Nat) : Nat × Nat := beF (tlV V n np) (wlV V n nn) (fac n)
theorem beF_lt (f : Nat → Bool) (w : Nat → Nat) : ∀ k, (beF f w k).2 ≠ 0 → (beF f w k).1 < k := by
  intro k
  induction k with
  | zero => intro h; exact absurd rfl h
  | succ k ih =>
    unfold beF
    split
    · intro _; exact Nat.lt_succ_self k
    · intro h; exact Nat.lt_succ_of_lt (ih h)
theorem beF_le (f : Nat → Bool) (w : Nat → Nat) (M : Nat) (hw : ∀ k, w k ≤ M) : ∀ k, (beF f w k).2 ≤ M + 1 := by
  intro k
  induction k with
  | zero => exact Nat.zero_le _
  | succ k ih =>
    unfold beF
    split
    · exact Nat.succ_le_succ (hw k)
    · exact ih
theorem cmpAv : ∀ a : Nat, a ≤ 7 → ∀ m : Nat, m ≤ 8 → (nI a ≤ avI m ↔ ¬ m < a + 1) := by decide +kernel
theorem c_X11_best (V : pV) (α : Nat → Nat) (I : fdI) (L : fdL) {n nn np nt : Nat} (h : mOk V I n nn np nt) : Con fd_SM α yX11_best mX11_best [.ref (α 0)] I L (fd_ip (qnP ((beV V n nn np).2 ≠ 0) (nI (beV V n nn np).1) I L)) := by
  refine Con.of (by decide) rfl (Nat.le_of_ble_eq_true rfl) ?_
  have hn7 := h.2.1
  have hf := fac_le hn7.2
  have hwl : ∀ r, wlV V n nn r ≤ n := fun r => cnN_le _ _
  have hm := beF_le (tlV V n np) (wlV V n nn) n hwl
  have hb := beF_lt (tlV V n np) (wlV V n nn)
  have loop : ∀ r, r ≤ fac n → ∀ I1 : fdI, trI I I1 n r → ∀ L1 : fdL, L1 = L → Rn fd_SM α mX11_best 13 [(3, .int (nI r)), (2, .int (avI (beF (tlV V n np) (wlV V n nn) r).2)), (1, .int (if (beF (tlV V n np) (wlV V n nn) r).2 = 0 then -1 else nI (beF (tlV V n np) (wlV V n nn) r).1)), (0, .ref (α 0))] [] I1 L1 (fd_ip (qnP ((beV V n nn np).2 ≠ 0) (nI (beV V n nn np).1) I L)) := by
    refine fd_down (fun r hr ih => ?_)
    intro I1 t1 L1 e1
    have h1 := h.sm t1.1
    have hmr := hm r
    by_cases hx : r = fac n
    · subst hx
      by_cases hz : (beV V n nn np).2 = 0
      · have hz2 : (beF (tlV V n np) (wlV V n nn) (fac n)).2 = 0 := hz
        rw [if_pos hz2]
        refine r_iload_n dX11_best_13 rfl ?_
        refine r_aload_n dX11_best_14 rfl ?_
        refine r_cVr (As := []) (c_X11_orders α _ _ h1.1 hn7) lk_11_147 rfl rfl (by decide) (by decide) rfl rfl (Nat.le_of_ble_eq_true rfl) dX11_best_15 ?_
        refine r_icmp_ge 65 dX11_best_18 (by decide) (fun h18 => ?_) (fun h18 => absurd h18 (not_not_intro (Int32.le_refl _)))
        refine r_iload_n dX11_best_65 rfl ?_
        refine r_iconst (v := (-1)) dX11_best_66 rfl ?_
        refine r_icmp_ne 77 dX11_best_67 (by decide) (fun h67 => absurd h67 (by decide)) (fun h67 => ?_)
        refine r_aload_n dX11_best_70 rfl ?_
        refine r_cVr (As := []) (c_X11_no α _ _) lk_11_131 rfl rfl (by decide) (by decide) rfl rfl (Nat.le_of_ble_eq_true rfl) dX11_best_71 ?_
        refine r_goto (tgt := 78) dX11_best_74 (by decide) ?_
        refine r_iret rfl dX11_best_78 ?_
        exact ⟨_, rfl, e1, fun q => absurd hz q, fun _ => ⟨rfl, _, t1.1, rfl⟩⟩
      · have hz2 : ¬ (beF (tlV V n np) (wlV V n nn) (fac n)).2 = 0 := hz
        have hb2 := hb (fac n) hz2
        rw [if_neg hz2]
        refine r_iload_n dX11_best_13 rfl ?_
        refine r_aload_n dX11_best_14 rfl ?_
        refine r_cVr (As := []) (c_X11_orders α _ _ h1.1 hn7) lk_11_147 rfl rfl (by decide) (by decide) rfl rfl (Nat.le_of_ble_eq_true rfl) dX11_best_15 ?_
        refine r_icmp_ge 65 dX11_best_18 (by decide) (fun h18 => ?_) (fun h18 => absurd h18 (not_not_intro (Int32.le_refl _)))
        refine r_iload_n dX11_best_65 rfl ?_
        refine r_iconst (v := (-1)) dX11_best_66 rfl ?_
        refine r_icmp_ne 77 dX11_best_67 (by decide) (fun h67 => ?_) (fun h67 => absurd h67 (fun q => nI_pos (n := (beF (tlV V n np) (wlV V n nn) (fac n)).1) (by omega) (by rw [q]; decide)))
        refine r_iload_n dX11_best_77 rfl ?_
        refine r_iret rfl dX11_best_78 ?_
        exact ⟨_, rfl, e1, fun _ => ⟨rfl, t1.1⟩, fun q => absurd hz q⟩
    · have hr1 : r < fac n := by omega
      have ih := ih hr1
      have go : ∀ I2 : fdI, trI I I2 n r → ∀ L2 : fdL, L2 = L → Rn fd_SM α mX11_best 51 [(3, .int (nI r)), (2, .int (avI (beF (tlV V n np) (wlV V n nn) (r + 1)).2)), (1, .int (if (beF (tlV V n np) (wlV V n nn) (r + 1)).2 = 0 then -1 else nI (beF (tlV V n np) (wlV V n nn) (r + 1)).1)), (0, .ref (α 0))] [] I2 L2 (fd_ip (qnP ((beV V n nn np).2 ≠ 0) (nI (beV V n nn np).1) I L)) := by
        intro I2 t2 L2 e2
        refine r_aload_n dX11_best_51 rfl ?_
        refine r_aload_n dX11_best_52 rfl ?_
        refine r_getR rfl rfl fl_11_58 dX11_best_53 ?_
        refine r_cVq (As := [_]) (c_turns α I _ _ (h.sm t2.1).1 hn7 hr1 t2) lk_11_184 rfl rfl (by decide) (by decide) rfl rfl (Nat.le_of_ble_eq_true rfl) dX11_best_56 (fun I56 L56 q56 => ?_)
        obtain ⟨e56, s56, w56⟩ := q56
        refine r_iinc (v := _ + 1) (lv' := [(3, _), (2, _), (1, _), (0, _)]) dX11_best_59 rfl rfl (Nat.le_of_ble_eq_true rfl) rfl ?_
        refine r_goto (tgt := 13) dX11_best_62 (by decide) ?_
        rw [nI_1]
        exact r_keep [3, 2, 1, 0] rfl (ih _ s56 _ (e56.trans e2))
      have cmp : ∀ a m : Nat, a ≤ 7 → m ≤ 8 → (nI a ≤ avI m ↔ ¬ m < a + 1) := fun a m ha hm => cmpAv a ha m hm
      refine r_iload_n dX11_best_13 rfl ?_
      refine r_aload_n dX11_best_14 rfl ?_
      refine r_cVr (As := []) (c_X11_orders α _ _ h1.1 hn7) lk_11_147 rfl rfl (by decide) (by decide) rfl rfl (Nat.le_of_ble_eq_true rfl) dX11_best_15 ?_
      refine r_icmp_ge 65 dX11_best_18 (by decide) (fun h18 => absurd h18 (fun q => absurd ((nI_leI (by omega) (by omega)).mp q) (by omega))) (fun h18 => ?_)
      refine r_aload_n dX11_best_21 rfl ?_
      refine r_aload_n dX11_best_22 rfl ?_
      refine r_getR rfl rfl fl_11_58 dX11_best_23 ?_
      refine r_cVq (As := [_]) (c_lives V α _ _ 17 rfl (Or.inr rfl) h1 (t1.2 hr1) (prm_P hn7 hr1)) lk_11_170 rfl rfl (by decide) (by decide) rfl rfl (Nat.le_of_ble_eq_true rfl) dX11_best_26 (fun I26 L26 q26 => ?_)
      obtain ⟨e26, s26, t26, w26⟩ := q26
      refine r_aload_n dX11_best_29 rfl ?_
      refine r_cVr (As := []) (c_isTold V α _ _ (h1.sm s26) (fun d hd => (w26.1 d hd).1) (prm_P hn7 hr1)) lk_11_174 rfl rfl (by decide) (by decide) rfl rfl (Nat.le_of_ble_eq_true rfl) dX11_best_30 ?_
      refine r_if_eq 51 dX11_best_33 (by decide) (fun h33 => ?_) (fun h33 => ?_)
      · have ev : beF (tlV V n np) (wlV V n nn) (r + 1) = beF (tlV V n np) (wlV V n nn) r := if_neg (fun q => fd_b0.mp h33 q.1)
        rw [ev] at go
        exact r_keep [3, 2, 1, 0] rfl (go _ (t1.lives s26 t26.1) _ (e26.trans e1))
      · refine r_aload_n dX11_best_36 rfl ?_
        refine r_getV rfl rfl fl_11_164 dX11_best_37 w26.2 ?_
        refine r_iload_n dX11_best_40 rfl ?_
        refine r_icmp_le 51 dX11_best_41 (by decide) (fun h41 => ?_) (fun h41 => ?_)
        · have ev : beF (tlV V n np) (wlV V n nn) (r + 1) = beF (tlV V n np) (wlV V n nn) r := if_neg (fun q => (cmp _ _ (by have := hwl r; exact Nat.le_trans this hn7.2) (by omega)).mp h41 q.2)
          rw [ev] at go
          exact r_keep [3, 2, 1, 0] rfl (go _ (t1.lives s26 t26.1) _ (e26.trans e1))
        · have ev : beF (tlV V n np) (wlV V n nn) (r + 1) = (r, wlV V n nn r + 1) := if_pos ⟨fd_bn.mp h33, Decidable.byContradiction fun q => h41 ((cmp _ _ (by have := hwl r; exact Nat.le_trans this hn7.2) (by omega)).mpr q)⟩
          rw [ev, if_neg (Nat.succ_ne_zero _)] at go
          refine r_iload_n dX11_best_44 rfl ?_
          refine r_istore_n (lv' := [(1, _), (3, _), (2, _), (0, _)]) dX11_best_45 (Nat.le_of_ble_eq_true rfl) rfl ?_
          refine r_aload_n dX11_best_46 rfl ?_
          refine r_getV rfl rfl fl_11_164 dX11_best_47 w26.2 ?_
          refine r_istore_n (lv' := [(2, _), (1, _), (3, _), (0, _)]) dX11_best_50 (Nat.le_of_ble_eq_true rfl) rfl ?_
          exact r_keep [3, 2, 1, 0] rfl (go _ (t1.lives s26 t26.1) _ (e26.trans e1))
  refine r_iconst (v := (-1)) dX11_best_0 rfl ?_
  refine r_istore_n (lv' := [(1, _), (0, _)]) dX11_best_1 (Nat.le_of_ble_eq_true rfl) rfl ?_
  refine r_iconst (v := (-1)) dX11_best_2 rfl ?_
  refine r_istore_n (lv' := [(2, _), (1, _), (0, _)]) dX11_best_3 (Nat.le_of_ble_eq_true rfl) rfl ?_
  refine r_aload_n dX11_best_4 rfl ?_
  refine r_getR rfl rfl fl_11_58 dX11_best_5 ?_
  refine r_cSq (As := [_]) (c_starts α _ _ hn7) lk_11_178 (by decide) (by decide) rfl rfl (Nat.le_of_ble_eq_true rfl) dX11_best_8 (fun I8 L8 q8 => ?_)
  obtain ⟨e8, s8⟩ := q8
  refine r_iconst (v := 0) dX11_best_11 rfl ?_
  refine r_istore_n (lv' := [(3, _), (2, _), (1, _), (0, _)]) dX11_best_12 (Nat.le_of_ble_eq_true rfl) rfl ?_
  exact r_keep [3, 2, 1, 0] rfl (loop 0 (by omega) _ s8 _ e8)
def whV (V : pV) (n nn np : Nat) (d : Nat) (set : Int32) (r : Nat) : Int32 := if tlV V n np r = true ∧ knV V n nn (prm n r) d = set then 1 <<< (nI (ps (prm n r) n d) &&& 31) else 0
theorem c_X11_when (V : pV) (α : Nat → Nat) (I : fdI) (L : fdL) (d set : Int32) {n nn np nt : Nat} (h : mOk V I n nn np nt) : Con fd_SM α yX11_when mX11_when [.ref (α 0), .int d, .int set] I L (fd_ip (qsP (dayP d n ∧ dayP set 64) (orN (whV V n nn np d.toNatClampNeg set) (fac n)) (-2) I L)) := by
  refine Con.of (by decide) rfl (Nat.le_of_ble_eq_true rfl) ?_
  have hn7 := h.2.1
  have hf := fac_le hn7.2
  by_cases hok : dayP d n ∧ dayP set 64
  · obtain ⟨j, hj, rfl⟩ := dayP_nI hok.1
    rw [nI_clamp (by omega)]
    have loop : ∀ r, r ≤ fac n → ∀ I1 : fdI, trI I I1 n r → ∀ L1 : fdL, L1 = L → Rn fd_SM α mX11_when 39 [(4, .int (nI r)), (3, .int (orN (whV V n nn np j set) r)), (0, .ref (α 0)), (1, .int (nI j)), (2, .int set)] [] I1 L1 (fd_ip (qsP (dayP (nI j) n ∧ dayP set 64) (orN (whV V n nn np j set) (fac n)) (-2) I L)) := by
      refine fd_down (fun r hr ih => ?_)
      intro I1 t1 L1 e1
      have h1 := h.sm t1.1
      by_cases hx : r = fac n
      · subst hx
        refine r_iload dX11_when_39 rfl ?_
        refine r_aload_n dX11_when_41 rfl ?_
        refine r_cVr (As := []) (c_X11_orders α _ _ h1.1 hn7) lk_11_147 rfl rfl (by decide) (by decide) rfl rfl (Nat.le_of_ble_eq_true rfl) dX11_when_42 ?_
        refine r_icmp_ge 102 dX11_when_45 (by decide) (fun h45 => ?_) (fun h45 => absurd h45 (not_not_intro (Int32.le_refl _)))
        refine r_iload_n dX11_when_102 rfl ?_
        refine r_iret rfl dX11_when_103 ?_
        exact ⟨_, rfl, qsP.yes hok e1 rfl t1.1⟩
      · have hr1 : r < fac n := by omega
        have go : ∀ v, v = whV V n nn np j set r → ∀ I2 : fdI, trI I I2 n r → ∀ L2 : fdL, L2 = L → Rn fd_SM α mX11_when 86 [(4, .int (nI r)), (0, .ref (α 0)), (1, .int (nI j)), (2, .int set)] [.int v, .int (orN (whV V n nn np j set) r)] I2 L2 (fd_ip (qsP (dayP (nI j) n ∧ dayP set 64) (orN (whV V n nn np j set) (fac n)) (-2) I L)) := by
          intro v hv I2 t2 L2 e2
          subst hv
          refine r_ior dX11_when_86 ?_
          refine r_istore_n (lv' := [(3, _), (4, _), (0, _), (1, _), (2, _)]) dX11_when_87 (Nat.le_of_ble_eq_true rfl) rfl ?_
          refine r_aload_n dX11_when_88 rfl ?_
          refine r_aload_n dX11_when_89 rfl ?_
          refine r_getR rfl rfl fl_11_58 dX11_when_90 ?_
          refine r_cVq (As := [_]) (c_turns α I _ _ (h.sm t2.1).1 hn7 hr1 t2) lk_11_184 rfl rfl (by decide) (by decide) rfl rfl (Nat.le_of_ble_eq_true rfl) dX11_when_93 (fun I93 L93 q93 => ?_)
          obtain ⟨e93, s93, w93⟩ := q93
          refine r_iinc (v := _ + 1) (lv' := [(4, _), (3, _), (0, _), (1, _), (2, _)]) dX11_when_96 rfl rfl (Nat.le_of_ble_eq_true rfl) rfl ?_
          refine r_goto (tgt := 39) dX11_when_99 (by decide) ?_
          rw [nI_1]
          exact r_keep [4, 3, 0, 1, 2] rfl (ih hr1 _ s93 _ (e93.trans e2))
        refine r_iload dX11_when_39 rfl ?_
        refine r_aload_n dX11_when_41 rfl ?_
        refine r_cVr (As := []) (c_X11_orders α _ _ h1.1 hn7) lk_11_147 rfl rfl (by decide) (by decide) rfl rfl (Nat.le_of_ble_eq_true rfl) dX11_when_42 ?_
        refine r_icmp_ge 102 dX11_when_45 (by decide) (fun h45 => absurd h45 (fun q => absurd ((nI_leI (by omega) (by omega)).mp q) (by omega))) (fun h45 => ?_)
        refine r_aload_n dX11_when_48 rfl ?_
        refine r_aload_n dX11_when_49 rfl ?_
        refine r_getR rfl rfl fl_11_58 dX11_when_50 ?_
        refine r_cVq (As := [_]) (c_lives V α _ _ 17 rfl (Or.inr rfl) h1 (t1.2 hr1) (prm_P hn7 hr1)) lk_11_170 rfl rfl (by decide) (by decide) rfl rfl (Nat.le_of_ble_eq_true rfl) dX11_when_53 (fun I53 L53 q53 => ?_)
        obtain ⟨e53, s53, t53, w53⟩ := q53
        refine r_iload_n dX11_when_56 rfl ?_
        refine r_aload_n dX11_when_57 rfl ?_
        refine r_cVr (As := []) (c_isTold V α _ _ (h1.sm s53) (fun d hd => (w53.1 d hd).1) (prm_P hn7 hr1)) lk_11_174 rfl rfl (by decide) (by decide) rfl rfl (Nat.le_of_ble_eq_true rfl) dX11_when_58 ?_
        refine r_if_eq 85 dX11_when_61 (by decide) (fun h61 => ?_) (fun h61 => ?_)
        · have ev : (0 : Int32) = whV V n nn np j set r := (if_neg (fun q => fd_b0.mp h61 q.1)).symm
          refine r_iconst (v := 0) dX11_when_85 rfl ?_
          exact r_keep [4, 0, 1, 2] rfl (go _ ev _ (t1.lives s53 t53.1) _ (e53.trans e1))
        · refine r_aload_n dX11_when_64 rfl ?_
          refine r_getR rfl rfl fl_11_52 dX11_when_65 ?_
          refine r_iload_n dX11_when_68 rfl ?_
          refine r_ialdN rfl dX11_when_69 (by omega) (by omega) (w53.1 j hj).2.1 ?_
          refine r_iload_n dX11_when_70 rfl ?_
          refine r_icmp_ne 85 dX11_when_71 (by decide) (fun h71 => ?_) (fun h71 => ?_)
          · have ev : (0 : Int32) = whV V n nn np j set r := (if_neg (fun q => h71 q.2)).symm
            refine r_iconst (v := 0) dX11_when_85 rfl ?_
            exact r_keep [4, 0, 1, 2] rfl (go _ ev _ (t1.lives s53 t53.1) _ (e53.trans e1))
          · have ev : (1 : Int32) <<< (nI (ps (prm n r) n j) &&& 31) = whV V n nn np j set r := (if_pos ⟨fd_bn.mp h61, h71⟩).symm
            refine r_iconst (v := 1) dX11_when_74 rfl ?_
            refine r_aload_n dX11_when_75 rfl ?_
            refine r_getR rfl rfl fl_11_55 dX11_when_76 ?_
            refine r_iload_n dX11_when_79 rfl ?_
            refine r_ialdN rfl dX11_when_80 (by omega) (by omega) (w53.1 j hj).1 ?_
            refine r_ishl dX11_when_81 ?_
            refine r_goto (tgt := 86) dX11_when_82 (by decide) ?_
            exact r_keep [4, 0, 1, 2] rfl (go _ ev _ (t1.lives s53 t53.1) _ (e53.trans e1))
    refine r_aload_n dX11_when_0 rfl ?_
    refine r_iload_n dX11_when_1 rfl ?_
    refine r_cVr (As := [_]) (c_X11_isDay α _ _ _ h.1 hn7) lk_11_124 rfl rfl (by decide) (by decide) rfl rfl (Nat.le_of_ble_eq_true rfl) dX11_when_2 ?_
    refine r_if_eq 20 dX11_when_5 (by decide) (fun h5 => absurd h5 (fd_bn.mpr hok.1)) (fun h5 => ?_)
    refine r_iload_n dX11_when_8 rfl ?_
    refine r_i2l dX11_when_9 rfl ?_
    refine r_lconst (v := 0) dX11_when_10 rfl ?_
    refine r_ldc2 (v := (63 : Int64)) (fd_in 1229 (by decide +kernel) (by decide +kernel)) dX11_when_11 ?_
    refine r_cSr (As := [_, _, _]) (c_in63 α _ _ _) lk_11_97 (by decide) (by decide) rfl rfl (Nat.le_of_ble_eq_true rfl) dX11_when_14 ?_
    refine r_if_ne 27 dX11_when_17 (by decide) (fun h17 => ?_) (fun h17 => absurd h17 (fd_bn.mpr hok.2))
    refine r_iconst (v := 0) dX11_when_27 rfl ?_
    refine r_istore_n (lv' := [(3, _), (0, _), (1, _), (2, _)]) dX11_when_28 (Nat.le_of_ble_eq_true rfl) rfl ?_
    refine r_aload_n dX11_when_29 rfl ?_
    refine r_getR rfl rfl fl_11_58 dX11_when_30 ?_
    refine r_cSq (As := [_]) (c_starts α _ _ hn7) lk_11_178 (by decide) (by decide) rfl rfl (Nat.le_of_ble_eq_true rfl) dX11_when_33 (fun I33 L33 q33 => ?_)
    obtain ⟨e33, s33⟩ := q33
    refine r_iconst (v := 0) dX11_when_36 rfl ?_
    refine r_istore (lv' := [(4, _), (3, _), (0, _), (1, _), (2, _)]) dX11_when_37 (Nat.le_of_ble_eq_true rfl) rfl ?_
    exact r_keep [4, 3, 0, 1, 2] rfl (loop 0 (by omega) _ s33 _ e33)
  · refine r_aload_n dX11_when_0 rfl ?_
    refine r_iload_n dX11_when_1 rfl ?_
    refine r_cVr (As := [_]) (c_X11_isDay α _ _ _ h.1 hn7) lk_11_124 rfl rfl (by decide) (by decide) rfl rfl (Nat.le_of_ble_eq_true rfl) dX11_when_2 ?_
    refine r_if_eq 20 dX11_when_5 (by decide) (fun h5 => ?_) (fun h5 => ?_)
    · refine r_aload_n dX11_when_20 rfl ?_
      refine r_bipush (v := (-2)) dX11_when_21 rfl ?_
      refine r_cVr (As := [_]) (c_X11_bad α _ _ _) lk_11_120 rfl rfl (by decide) (by decide) rfl rfl (Nat.le_of_ble_eq_true rfl) dX11_when_23 ?_
      refine r_iret rfl dX11_when_26 ?_
      exact ⟨_, rfl, qsP.no hok⟩
    · refine r_iload_n dX11_when_8 rfl ?_
      refine r_i2l dX11_when_9 rfl ?_
      refine r_lconst (v := 0) dX11_when_10 rfl ?_
      refine r_ldc2 (v := (63 : Int64)) (fd_in 1229 (by decide +kernel) (by decide +kernel)) dX11_when_11 ?_
      refine r_cSr (As := [_, _, _]) (c_in63 α _ _ _) lk_11_97 (by decide) (by decide) rfl rfl (Nat.le_of_ble_eq_true rfl) dX11_when_14 ?_
      refine r_if_ne 27 dX11_when_17 (by decide) (fun h17 => absurd h17 (not_not_intro (fd_b0.mpr (fun q => hok ⟨fd_bn.mp h5, q⟩)))) (fun h17 => ?_)
      refine r_aload_n dX11_when_20 rfl ?_
      refine r_bipush (v := (-2)) dX11_when_21 rfl ?_
      refine r_cVr (As := [_]) (c_X11_bad α _ _ _) lk_11_120 rfl rfl (by decide) (by decide) rfl rfl (Nat.le_of_ble_eq_true rfl) dX11_when_23 ?_
      refine r_iret rfl dX11_when_26 ?_
      exact ⟨_, rfl, qsP.no hok⟩
/-- whether an order is as told, with the diary -/
def dyB (V : pV) (n nn : Nat) (p : Nat → Nat) (k : Nat) : Bool := V 5 k = -1 || knV V n nn p (p k) = V 5 k
def tnV (V : pV) (n nn np : Nat) (r : Nat) : Bool := tlV V n np r && anB (dyB V n nn (prm n r)) n
def tnR (V : pV) (n nn np : Nat) (w : Int32) : Int32 := if w = 0 then nI (cnN (tnV V n nn np) (fac n)) else faF (tnV V n nn np) (fac n)
theorem c_X11_torn (V : pV) (α : Nat → Nat) (I : fdI) (L : fdL) (w : Int32) {n nn np nt : Nat} (h : mOk V I n nn np nt) : Con fd_SM α yX11_torn mX11_torn [.ref (α 0), .int w] I L (fd_ip (qsP (dayP w 2) (tnR V n nn np w) (-10) I L)) := by
  refine Con.of (by decide) rfl (Nat.le_of_ble_eq_true rfl) ?_
  have hn7 := h.2.1
  have hf := fac_le hn7.2
  by_cases hok : dayP w 2
  · have loop : ∀ r, r ≤ fac n → ∀ I1 : fdI, trI I I1 n r → ∀ L1 : fdL, L1 = L → Rn fd_SM α mX11_torn 31 [(4, .int (nI r)), (3, .int (faF (tnV V n nn np) r)), (2, .int (nI (cnN (tnV V n nn np) r))), (0, .ref (α 0)), (1, .int w)] [] I1 L1 (fd_ip (qsP (dayP w 2) (tnR V n nn np w) (-10) I L)) := by
      refine fd_down (fun r hr ih => ?_)
      intro I1 t1 L1 e1
      have h1 := h.sm t1.1
      by_cases hx : r = fac n
      · subst hx
        refine r_iload dX11_torn_31 rfl ?_
        refine r_aload_n dX11_torn_33 rfl ?_
        refine r_cVr (As := []) (c_X11_orders α _ _ h1.1 hn7) lk_11_147 rfl rfl (by decide) (by decide) rfl rfl (Nat.le_of_ble_eq_true rfl) dX11_torn_34 ?_
        refine r_icmp_ge 161 dX11_torn_37 (by decide) (fun h37 => ?_) (fun h37 => absurd h37 (not_not_intro (Int32.le_refl _)))
        refine r_iload_n dX11_torn_161 rfl ?_
        refine r_if_ne 169 dX11_torn_162 (by decide) (fun h162 => ?_) (fun h162 => ?_)
        · have ev : tnR V n nn np w = faF (tnV V n nn np) (fac n) := if_neg h162
          rw [ev]
          refine r_iload_n dX11_torn_169 rfl ?_
          refine r_iret rfl dX11_torn_170 ?_
          exact ⟨_, rfl, qsP.yes hok e1 rfl t1.1⟩
        · have ev : tnR V n nn np w = nI (cnN (tnV V n nn np) (fac n)) := if_pos h162
          rw [ev]
          refine r_iload_n dX11_torn_165 rfl ?_
          refine r_goto (tgt := 170) dX11_torn_166 (by decide) ?_
          refine r_iret rfl dX11_torn_170 ?_
          exact ⟨_, rfl, qsP.yes hok e1 rfl t1.1⟩
      · have hr1 : r < fac n := by omega
        have ih := ih hr1
        have hp := prm_P hn7 hr1
        -- behind the diary
        have go : ∀ b : Bool, b = tnV V n nn np r → ∀ I2 : fdI, trI I I2 n r → ∀ L2 : fdL, L2 = L → Rn fd_SM α mX11_torn 117 [(5, .int (fd_b (b = true))), (4, .int (nI r)), (3, .int (faF (tnV V n nn np) r)), (2, .int (nI (cnN (tnV V n nn np) r))), (0, .ref (α 0)), (1, .int w)] [] I2 L2 (fd_ip (qsP (dayP w 2) (tnR V n nn np w) (-10) I L)) := by
          intro b hb I2 t2 L2 e2
          cases b with
          | true =>
            have c1 : cnN (tnV V n nn np) (r + 1) = cnN (tnV V n nn np) r + 1 := by simp only [cnN, ← hb]; rfl
            rw [c1] at ih
            by_cases z : faF (tnV V n nn np) r = -1
            · have c2 : faF (tnV V n nn np) (r + 1) = nI r := if_pos ⟨hb.symm, z⟩
              rw [c2] at ih
              refine r_iload dX11_torn_117 rfl ?_
              refine r_if_eq 132 dX11_torn_119 (by decide) (fun h119 => absurd h119 (by decide)) (fun h119 => ?_)
              refine r_iload_n dX11_torn_122 rfl ?_
              refine r_iconst (v := (-1)) dX11_torn_123 rfl ?_
              refine r_icmp_ne 132 dX11_torn_124 (by decide) (fun h124 => absurd h124 (not_not_intro z)) (fun h124 => ?_)
              refine r_iload dX11_torn_127 rfl ?_
              refine r_goto (tgt := 133) dX11_torn_129 (by decide) ?_
              refine r_istore_n (lv' := [(3, _), (5, _), (4, _), (2, _), (0, _), (1, _)]) dX11_torn_133 (Nat.le_of_ble_eq_true rfl) rfl ?_
              refine r_iload_n dX11_torn_134 rfl ?_
              refine r_iload dX11_torn_135 rfl ?_
              refine r_if_eq 144 dX11_torn_137 (by decide) (fun h137 => absurd h137 (by decide)) (fun h137 => ?_)
              refine r_iconst (v := 1) dX11_torn_140 rfl ?_
              refine r_goto (tgt := 145) dX11_torn_141 (by decide) ?_
              refine r_iadd dX11_torn_145 ?_
              rw [nI_1]
              refine r_istore_n (lv' := [(2, _), (3, _), (5, _), (4, _), (0, _), (1, _)]) dX11_torn_146 (Nat.le_of_ble_eq_true rfl) rfl ?_
              refine r_aload_n dX11_torn_147 rfl ?_
              refine r_aload_n dX11_torn_148 rfl ?_
              refine r_getR rfl rfl fl_11_58 dX11_torn_149 ?_
              refine r_cVq (As := [_]) (c_turns α I _ _ (h.sm t2.1).1 hn7 hr1 t2) lk_11_184 rfl rfl (by decide) (by decide) rfl rfl (Nat.le_of_ble_eq_true rfl) dX11_torn_152 (fun I152 L152 q152 => ?_)
              obtain ⟨e152, s152, w152⟩ := q152
              refine r_iinc (v := _ + 1) (lv' := [(4, _), (2, _), (3, _), (5, _), (0, _), (1, _)]) dX11_torn_155 rfl rfl (Nat.le_of_ble_eq_true rfl) rfl ?_
              refine r_goto (tgt := 31) dX11_torn_158 (by decide) ?_
              rw [nI_1]
              exact r_keep [4, 3, 2, 0, 1] rfl (ih _ s152 _ (e152.trans e2))
            · have c2 : faF (tnV V n nn np) (r + 1) = faF (tnV V n nn np) r := if_neg (fun q => z q.2)
              rw [c2] at ih
              refine r_iload dX11_torn_117 rfl ?_
              refine r_if_eq 132 dX11_torn_119 (by decide) (fun h119 => absurd h119 (by decide)) (fun h119 => ?_)
              refine r_iload_n dX11_torn_122 rfl ?_
              refine r_iconst (v := (-1)) dX11_torn_123 rfl ?_
              refine r_icmp_ne 132 dX11_torn_124 (by decide) (fun h124 => ?_) (fun h124 => absurd h124 z)
              refine r_iload_n dX11_torn_132 rfl ?_
              refine r_istore_n (lv' := [(3, _), (5, _), (4, _), (2, _), (0, _), (1, _)]) dX11_torn_133 (Nat.le_of_ble_eq_true rfl) rfl ?_
              refine r_iload_n dX11_torn_134 rfl ?_
              refine r_iload dX11_torn_135 rfl ?_
              refine r_if_eq 144 dX11_torn_137 (by decide) (fun h137 => absurd h137 (by decide)) (fun h137 => ?_)
              refine r_iconst (v := 1) dX11_torn_140 rfl ?_
              refine r_goto (tgt := 145) dX11_torn_141 (by decide) ?_
              refine r_iadd dX11_torn_145 ?_
              rw [nI_1]
              refine r_istore_n (lv' := [(2, _), (3, _), (5, _), (4, _), (0, _), (1, _)]) dX11_torn_146 (Nat.le_of_ble_eq_true rfl) rfl ?_
              refine r_aload_n dX11_torn_147 rfl ?_
              refine r_aload_n dX11_torn_148 rfl ?_
              refine r_getR rfl rfl fl_11_58 dX11_torn_149 ?_
              refine r_cVq (As := [_]) (c_turns α I _ _ (h.sm t2.1).1 hn7 hr1 t2) lk_11_184 rfl rfl (by decide) (by decide) rfl rfl (Nat.le_of_ble_eq_true rfl) dX11_torn_152 (fun I152 L152 q152 => ?_)
              obtain ⟨e152, s152, w152⟩ := q152
              refine r_iinc (v := _ + 1) (lv' := [(4, _), (2, _), (3, _), (5, _), (0, _), (1, _)]) dX11_torn_155 rfl rfl (Nat.le_of_ble_eq_true rfl) rfl ?_
              refine r_goto (tgt := 31) dX11_torn_158 (by decide) ?_
              rw [nI_1]
              exact r_keep [4, 3, 2, 0, 1] rfl (ih _ s152 _ (e152.trans e2))
          | false =>
            have c1 : cnN (tnV V n nn np) (r + 1) = cnN (tnV V n nn np) r := by simp only [cnN, ← hb]; rfl
            rw [c1] at ih
            have c2 : faF (tnV V n nn np) (r + 1) = faF (tnV V n nn np) r := if_neg (fun q => by rw [← hb] at q; cases q.1)
            rw [c2] at ih
            refine r_iload dX11_torn_117 rfl ?_
            refine r_if_eq 132 dX11_torn_119 (by decide) (fun h119 => ?_) (fun h119 => absurd h119 (by decide))
            refine r_iload_n dX11_torn_132 rfl ?_
            refine r_istore_n (lv' := [(3, _), (5, _), (4, _), (2, _), (0, _), (1, _)]) dX11_torn_133 (Nat.le_of_ble_eq_true rfl) rfl ?_
            refine r_iload_n dX11_torn_134 rfl ?_
            refine r_iload dX11_torn_135 rfl ?_
            refine r_if_eq 144 dX11_torn_137 (by decide) (fun h137 => ?_) (fun h137 => absurd h137 (by decide))
            refine r_iconst (v := 0) dX11_torn_144 rfl ?_
            refine r_iadd dX11_torn_145 ?_
            rw [Int32.add_zero]
            refine r_istore_n (lv' := [(2, _), (3, _), (5, _), (4, _), (0, _), (1, _)]) dX11_torn_146 (Nat.le_of_ble_eq_true rfl) rfl ?_
            refine r_aload_n dX11_torn_147 rfl ?_
            refine r_aload_n dX11_torn_148 rfl ?_
            refine r_getR rfl rfl fl_11_58 dX11_torn_149 ?_
            refine r_cVq (As := [_]) (c_turns α I _ _ (h.sm t2.1).1 hn7 hr1 t2) lk_11_184 rfl rfl (by decide) (by decide) rfl rfl (Nat.le_of_ble_eq_true rfl) dX11_torn_152 (fun I152 L152 q152 => ?_)
            obtain ⟨e152, s152, w152⟩ := q152
            refine r_iinc (v := _ + 1) (lv' := [(4, _), (2, _), (3, _), (5, _), (0, _), (1, _)]) dX11_torn_155 rfl rfl (Nat.le_of_ble_eq_true rfl) rfl ?_
            refine r_goto (tgt := 31) dX11_torn_158 (by decide) ?_
            rw [nI_1]
            exact r_keep [4, 3, 2, 0, 1] rfl (ih _ s152 _ (e152.trans e2))
        have diar : ∀ I2 : fdI, trI I I2 n r → (∀ d, d < n → I2 15 d = knV V n nn (prm n r) d) → ∀ L2 : fdL, L2 = L → ∀ k, k ≤ n → Rn fd_SM α mX11_torn 57 [(6, .int (nI k)), (5, .int (fd_b ((tlV V n np r && anB (dyB V n nn (prm n r)) k) = true))), (4, .int (nI r)), (3, .int (faF (tnV V n nn np) r)), (2, .int (nI (cnN (tnV V n nn np) r))), (0, .ref (α 0)), (1, .int w)] [] I2 L2 (fd_ip (qsP (dayP w 2) (tnR V n nn np w) (-10) I L)) := by
          intro I2 t2 w2 L2 e2
          have h2 := h.sm t2.1
          refine fd_down (fun k hk ihk => ?_)
          have jn : ∀ v, v = fd_b ((tlV V n np r && anB (dyB V n nn (prm n r)) (k + 1)) = true) → k < n → Rn fd_SM α mX11_torn 109 [(6, .int (nI k)), (4, .int (nI r)), (3, .int (faF (tnV V n nn np) r)), (2, .int (nI (cnN (tnV V n nn np) r))), (0, .ref (α 0)), (1, .int w)] [.int v] I2 L2 (fd_ip (qsP (dayP w 2) (tnR V n nn np w) (-10) I L)) := by
            intro v hv hkn
            subst hv
            refine r_istore (lv' := [(5, _), (6, _), (4, _), (3, _), (2, _), (0, _), (1, _)]) dX11_torn_109 (Nat.le_of_ble_eq_true rfl) rfl ?_
            refine r_iinc (v := _ + 1) (lv' := [(6, _), (5, _), (4, _), (3, _), (2, _), (0, _), (1, _)]) dX11_torn_111 rfl rfl (Nat.le_of_ble_eq_true rfl) rfl ?_
            refine r_goto (tgt := 57) dX11_torn_114 (by decide) ?_
            rw [nI_1]
            exact r_keep [6, 5, 4, 3, 2, 0, 1] rfl (ihk hkn)
          by_cases hx2 : k = n
          · subst hx2
            refine r_iload dX11_torn_57 rfl ?_
            refine r_aload_n dX11_torn_59 rfl ?_
            refine r_getV rfl rfl fl_11_93 dX11_torn_60 h2.1 ?_
            refine r_icmp_ge 117 dX11_torn_63 (by decide) (fun h63 => ?_) (fun h63 => absurd h63 (not_not_intro (Int32.le_refl _)))
            exact r_keep [5, 4, 3, 2, 0, 1] rfl (go (tnV V k nn np r) rfl _ t2 _ e2)
          · have hkn : k < n := by omega
            have hy : I2 12 k = V 5 k := (h2.2.2.2.2.2.2.2.2.1.1 k hkn).2.2.2.2
            have pk := hp.1 k hkn
            refine r_iload dX11_torn_57 rfl ?_
            refine r_aload_n dX11_torn_59 rfl ?_
            refine r_getV rfl rfl fl_11_93 dX11_torn_60 h2.1 ?_
            refine r_icmp_ge 117 dX11_torn_63 (by decide) (fun h63 => absurd h63 (fun q => absurd ((nI_leI (by omega) (by omega)).mp q) (by omega))) (fun h63 => ?_)
            refine r_iload dX11_torn_66 rfl ?_
            refine r_if_eq 108 dX11_torn_68 (by decide) (fun h68 => ?_) (fun h68 => ?_)
            · have z := fd_b0.mp h68
              have ev : (0 : Int32) = fd_b ((tlV V n np r && anB (dyB V n nn (prm n r)) (k + 1)) = true) := (fd_b_f (fun q => z (by simp only [anB, Bool.and_eq_true] at q ⊢; exact ⟨q.1, q.2.1⟩))).symm
              refine r_iconst (v := 0) dX11_torn_108 rfl ?_
              exact r_keep [6, 4, 3, 2, 0, 1] rfl (jn _ ev hkn)
            · have z := fd_bn.mp h68
              refine r_aload_n dX11_torn_71 rfl ?_
              refine r_getR rfl rfl fl_11_43 dX11_torn_72 ?_
              refine r_iload dX11_torn_75 rfl ?_
              refine r_ialdN rfl dX11_torn_77 (by omega) (by omega) hy ?_
              refine r_iconst (v := (-1)) dX11_torn_78 rfl ?_
              refine r_icmp_eq 104 dX11_torn_79 (by decide) (fun h79 => ?_) (fun h79 => ?_)
              · have ev : (1 : Int32) = fd_b ((tlV V n np r && anB (dyB V n nn (prm n r)) (k + 1)) = true) := (fd_b_t (by simp only [anB, Bool.and_eq_true] at z ⊢; exact ⟨z.1, z.2, by simp [dyB, h79]⟩)).symm
                refine r_iconst (v := 1) dX11_torn_104 rfl ?_
                refine r_goto (tgt := 109) dX11_torn_105 (by decide) ?_
                exact r_keep [6, 4, 3, 2, 0, 1] rfl (jn _ ev hkn)
              · refine r_aload_n dX11_torn_82 rfl ?_
                refine r_getR rfl rfl fl_11_52 dX11_torn_83 ?_
                refine r_aload_n dX11_torn_86 rfl ?_
                refine r_getR rfl rfl fl_11_58 dX11_torn_87 ?_
                refine r_iload dX11_torn_90 rfl ?_
                refine r_ialdN rfl dX11_torn_92 (by omega) (by omega) (t2.2 hr1 k hkn) ?_
                refine r_ialdN rfl dX11_torn_93 (by omega) (by omega) (w2 _ pk) ?_
                refine r_aload_n dX11_torn_94 rfl ?_
                refine r_getR rfl rfl fl_11_43 dX11_torn_95 ?_
                refine r_iload dX11_torn_98 rfl ?_
                refine r_ialdN rfl dX11_torn_100 (by omega) (by omega) hy ?_
                refine r_icmp_ne 108 dX11_torn_101 (by decide) (fun h101 => ?_) (fun h101 => ?_)
                · have ev : (0 : Int32) = fd_b ((tlV V n np r && anB (dyB V n nn (prm n r)) (k + 1)) = true) := (fd_b_f (fun q => by simp only [anB, Bool.and_eq_true] at q; have q2 := q.2.2; simp [dyB, h79, h101] at q2)).symm
                  refine r_iconst (v := 0) dX11_torn_108 rfl ?_
                  exact r_keep [6, 4, 3, 2, 0, 1] rfl (jn _ ev hkn)
                · have ev : (1 : Int32) = fd_b ((tlV V n np r && anB (dyB V n nn (prm n r)) (k + 1)) = true) := (fd_b_t (by simp only [anB, Bool.and_eq_true] at z ⊢; exact ⟨z.1, z.2, by simp [dyB, h101]⟩)).symm
                  refine r_iconst (v := 1) dX11_torn_104 rfl ?_
                  refine r_goto (tgt := 109) dX11_torn_105 (by decide) ?_
                  exact r_keep [6, 4, 3, 2, 0, 1] rfl (jn _ ev hkn)
        refine r_iload dX11_torn_31 rfl ?_
        refine r_aload_n dX11_torn_33 rfl ?_
        refine r_cVr (As := []) (c_X11_orders α _ _ h1.1 hn7) lk_11_147 rfl rfl (by decide) (by decide) rfl rfl (Nat.le_of_ble_eq_true rfl) dX11_torn_34 ?_
        refine r_icmp_ge 161 dX11_torn_37 (by decide) (fun h37 => absurd h37 (fun q => absurd ((nI_leI (by omega) (by omega)).mp q) (by omega))) (fun h37 => ?_)
        refine r_aload_n dX11_torn_40 rfl ?_
        refine r_aload_n dX11_torn_41 rfl ?_
        refine r_getR rfl rfl fl_11_58 dX11_torn_42 ?_
        refine r_cVq (As := [_]) (c_lives V α _ _ 17 rfl (Or.inr rfl) h1 (t1.2 hr1) hp) lk_11_170 rfl rfl (by decide) (by decide) rfl rfl (Nat.le_of_ble_eq_true rfl) dX11_torn_45 (fun I45 L45 q45 => ?_)
        obtain ⟨e45, s45, t45, w45⟩ := q45
        refine r_aload_n dX11_torn_48 rfl ?_
        refine r_cVr (As := []) (c_isTold V α _ _ (h1.sm s45) (fun d hd => (w45.1 d hd).1) hp) lk_11_174 rfl rfl (by decide) (by decide) rfl rfl (Nat.le_of_ble_eq_true rfl) dX11_torn_49 ?_
        refine r_istore (lv' := [(5, _), (4, _), (3, _), (2, _), (0, _), (1, _)]) dX11_torn_52 (Nat.le_of_ble_eq_true rfl) rfl ?_
        refine r_iconst (v := 0) dX11_torn_54 rfl ?_
        refine r_istore (lv' := [(6, _), (5, _), (4, _), (3, _), (2, _), (0, _), (1, _)]) dX11_torn_55 (Nat.le_of_ble_eq_true rfl) rfl ?_
        refine r_keep [6, 5, 4, 3, 2, 0, 1] rfl ?_
        have := diar _ (t1.lives s45 t45.1) (fun d hd => (w45.1 d hd).2.1) _ (e45.trans e1) 0 (by omega)
        rw [show (tlV V n np r && anB (dyB V n nn (prm n r)) 0) = tlB V n np (prm n r) from by simp [anB, tlV]] at this
        exact this
    refine r_iload_n dX11_torn_0 rfl ?_
    refine r_i2l dX11_torn_1 rfl ?_
    refine r_lconst (v := 0) dX11_torn_2 rfl ?_
    refine r_lconst (v := 1) dX11_torn_3 rfl ?_
    refine r_cSr (As := [_, _, _]) (c_in1 α _ _ _) lk_11_97 (by decide) (by decide) rfl rfl (Nat.le_of_ble_eq_true rfl) dX11_torn_4 ?_
    refine r_if_ne 17 dX11_torn_7 (by decide) (fun h7 => ?_) (fun h7 => absurd h7 (fd_bn.mpr hok))
    refine r_iconst (v := 0) dX11_torn_17 rfl ?_
    refine r_istore_n (lv' := [(2, _), (0, _), (1, _)]) dX11_torn_18 (Nat.le_of_ble_eq_true rfl) rfl ?_
    refine r_iconst (v := (-1)) dX11_torn_19 rfl ?_
    refine r_istore_n (lv' := [(3, _), (2, _), (0, _), (1, _)]) dX11_torn_20 (Nat.le_of_ble_eq_true rfl) rfl ?_
    refine r_aload_n dX11_torn_21 rfl ?_
    refine r_getR rfl rfl fl_11_58 dX11_torn_22 ?_
    refine r_cSq (As := [_]) (c_starts α _ _ hn7) lk_11_178 (by decide) (by decide) rfl rfl (Nat.le_of_ble_eq_true rfl) dX11_torn_25 (fun I25 L25 q25 => ?_)
    obtain ⟨e25, s25⟩ := q25
    refine r_iconst (v := 0) dX11_torn_28 rfl ?_
    refine r_istore (lv' := [(4, _), (3, _), (2, _), (0, _), (1, _)]) dX11_torn_29 (Nat.le_of_ble_eq_true rfl) rfl ?_
    exact r_keep [4, 3, 2, 0, 1] rfl (loop 0 (by omega) _ s25 _ e25)
  · refine r_iload_n dX11_torn_0 rfl ?_
    refine r_i2l dX11_torn_1 rfl ?_
    refine r_lconst (v := 0) dX11_torn_2 rfl ?_
    refine r_lconst (v := 1) dX11_torn_3 rfl ?_
    refine r_cSr (As := [_, _, _]) (c_in1 α _ _ _) lk_11_97 (by decide) (by decide) rfl rfl (Nat.le_of_ble_eq_true rfl) dX11_torn_4 ?_
    refine r_if_ne 17 dX11_torn_7 (by decide) (fun h7 => absurd h7 (not_not_intro (fd_b0.mpr hok))) (fun h7 => ?_)
    refine r_aload_n dX11_torn_10 rfl ?_
    refine r_bipush (v := (-10)) dX11_torn_11 rfl ?_
    refine r_cVr (As := [_]) (c_X11_bad α _ _ _) lk_11_120 rfl rfl (by decide) (by decide) rfl rfl (Nat.le_of_ble_eq_true rfl) dX11_torn_13 ?_
    refine r_iret rfl dX11_torn_16 ?_
    exact ⟨_, rfl, qsP.no hok⟩
