/-! the model: orders told, living, two -/
def toR (n nt : Nat) (r : Int32) : Int32 := if dayP r (fac n) then (if nt = 3 then -4 else nI nt) else -2
def toI (I : fdI) (n nt : Nat) (r : Int32) : fdI := if dayP r (fac n) then (if nt = 3 then mFull I else fd_up (fd_up I 11 nt r) 0 13 (nI (nt + 1))) else mBad I
theorem c_X11_told (α : Nat → Nat) (I : fdI) (L : fdL) (r : Int32) {n nt : Nat} (hn : I 0 1 = nI n) (hn7 : 1 ≤ n ∧ n ≤ 7) (hnt : I 0 13 = nI nt) (h3 : nt ≤ 3) : Con fd_SM α yX11_told mX11_told [.ref (α 0), .int r] I L (fd_is (some (.int (toR n nt r))) (toI I n nt r) L) := by
  refine Con.of (by decide) rfl (Nat.le_of_ble_eq_true rfl) ?_
  unfold toR toI
  by_cases hok : dayP r (fac n)
  · rw [if_pos hok, if_pos hok]
    by_cases h6 : nt = 3
    · rw [if_pos h6, if_pos h6]
      subst h6
      refine r_aload_n dX11_told_0 rfl ?_
      refine r_iload_n dX11_told_1 rfl ?_
      refine r_cVr (As := [_]) (c_X11_isRank α _ _ _ hn hn7) lk_11_150 rfl rfl (by decide) (by decide) rfl rfl (Nat.le_of_ble_eq_true rfl) dX11_told_2 ?_
      refine r_if_ne 15 dX11_told_5 (by decide) (fun h5 => ?_) (fun h5 => absurd h5 (fd_bn.mpr hok))
      refine r_aload_n dX11_told_15 rfl ?_
      refine r_getV rfl rfl fl_11_109 dX11_told_16 hnt ?_
      refine r_iconst (v := 3) dX11_told_19 rfl ?_
      refine r_icmp_ne 28 dX11_told_20 (by decide) (fun h20 => absurd h20 (not_not_intro rfl)) (fun h20 => ?_)
      refine r_aload_n dX11_told_23 rfl ?_
      refine r_cVr (As := []) (c_X11_full α _ _) lk_11_139 rfl rfl (by decide) (by decide) rfl rfl (Nat.le_of_ble_eq_true rfl) dX11_told_24 ?_
      refine r_iret rfl dX11_told_27 ?_
      exact fd_isI rfl rfl rfl
    · rw [if_neg h6, if_neg h6]
      refine r_aload_n dX11_told_0 rfl ?_
      refine r_iload_n dX11_told_1 rfl ?_
      refine r_cVr (As := [_]) (c_X11_isRank α _ _ _ hn hn7) lk_11_150 rfl rfl (by decide) (by decide) rfl rfl (Nat.le_of_ble_eq_true rfl) dX11_told_2 ?_
      refine r_if_ne 15 dX11_told_5 (by decide) (fun h5 => ?_) (fun h5 => absurd h5 (fd_bn.mpr hok))
      refine r_aload_n dX11_told_15 rfl ?_
      refine r_getV rfl rfl fl_11_109 dX11_told_16 hnt ?_
      refine r_iconst (v := 3) dX11_told_19 rfl ?_
      refine r_icmp_ne 28 dX11_told_20 (by decide) (fun h20 => ?_) (fun h20 => absurd h20 (fun q => h6 ((nI_eq (b := 3) (by omega) (by omega)).mp q)))
      refine r_aload_n dX11_told_28 rfl ?_
      refine r_getR rfl rfl fl_11_40 dX11_told_29 ?_
      refine r_aload_n dX11_told_32 rfl ?_
      refine r_getV rfl rfl fl_11_109 dX11_told_33 hnt ?_
      refine r_iload_n dX11_told_36 rfl ?_
      refine r_iastN rfl dX11_told_37 (by omega) (by omega) ?_
      refine r_aload_n dX11_told_38 rfl ?_
      refine r_dup dX11_told_39 rfl ?_
      refine r_getV rfl rfl fl_11_109 dX11_told_40 hnt ?_
      refine r_iconst (v := 1) dX11_told_43 rfl ?_
      refine r_iadd dX11_told_44 ?_
      rw [nI_1]
      refine r_putI rfl rfl fl_11_109 fw_11_13 dX11_told_45 ?_
      refine r_aload_n dX11_told_48 rfl ?_
      refine r_getV rfl rfl fl_11_109 dX11_told_49 fd_up_same ?_
      refine r_iconst (v := 1) dX11_told_52 rfl ?_
      refine r_isub dX11_told_53 ?_
      refine r_iret rfl dX11_told_54 ?_
      exact fd_isi (nI_pred nt) rfl rfl
  · rw [if_neg hok, if_neg hok]
    refine r_aload_n dX11_told_0 rfl ?_
    refine r_iload_n dX11_told_1 rfl ?_
    refine r_cVr (As := [_]) (c_X11_isRank α _ _ _ hn hn7) lk_11_150 rfl rfl (by decide) (by decide) rfl rfl (Nat.le_of_ble_eq_true rfl) dX11_told_2 ?_
    refine r_if_ne 15 dX11_told_5 (by decide) (fun h5 => absurd h5 (not_not_intro (fd_b0.mpr hok))) (fun h5 => ?_)
    refine r_aload_n dX11_told_8 rfl ?_
    refine r_bipush (v := (-2)) dX11_told_9 rfl ?_
    refine r_cVr (As := [_]) (c_X11_bad α _ _ _) lk_11_120 rfl rfl (by decide) (by decide) rfl rfl (Nat.le_of_ble_eq_true rfl) dX11_told_11 ?_
    refine r_iret rfl dX11_told_14 ?_
    exact fd_isI rfl rfl rfl
theorem c_X11_other (α : Nat → Nat) (I : fdI) (L : fdL) (r : Int32) {n : Nat} (hn : I 0 1 = nI n) (hn7 : 1 ≤ n ∧ n ≤ 7) : Con fd_SM α yX11_other mX11_other [.ref (α 0), .int r] I L (fd_is (some (.int (if dayP r (fac n) then I 0 16 else -2))) (if dayP r (fac n) then fd_up I 0 16 r else mBad I) L) := by
  refine Con.of (by decide) rfl (Nat.le_of_ble_eq_true rfl) ?_
  by_cases hok : dayP r (fac n)
  · rw [if_pos hok, if_pos hok]
    refine r_aload_n dX11_other_0 rfl ?_
    refine r_iload_n dX11_other_1 rfl ?_
    refine r_cVr (As := [_]) (c_X11_isRank α _ _ _ hn hn7) lk_11_150 rfl rfl (by decide) (by decide) rfl rfl (Nat.le_of_ble_eq_true rfl) dX11_other_2 ?_
    refine r_if_ne 15 dX11_other_5 (by decide) (fun h5 => ?_) (fun h5 => absurd h5 (fd_bn.mpr hok))
    refine r_aload_n dX11_other_15 rfl ?_
    refine r_getI rfl rfl fl_11_112 dX11_other_16 ?_
    refine r_istore_n (lv' := [(2, _), (0, _), (1, _)]) dX11_other_19 (Nat.le_of_ble_eq_true rfl) rfl ?_
    refine r_aload_n dX11_other_20 rfl ?_
    refine r_iload_n dX11_other_21 rfl ?_
    refine r_putI rfl rfl fl_11_112 fw_11_16 dX11_other_22 ?_
    refine r_iload_n dX11_other_25 rfl ?_
    refine r_iret rfl dX11_other_26 ?_
    exact fd_isI rfl rfl rfl
  · rw [if_neg hok, if_neg hok]
    refine r_aload_n dX11_other_0 rfl ?_
    refine r_iload_n dX11_other_1 rfl ?_
    refine r_cVr (As := [_]) (c_X11_isRank α _ _ _ hn hn7) lk_11_150 rfl rfl (by decide) (by decide) rfl rfl (Nat.le_of_ble_eq_true rfl) dX11_other_2 ?_
    refine r_if_ne 15 dX11_other_5 (by decide) (fun h5 => absurd h5 (not_not_intro (fd_b0.mpr hok))) (fun h5 => ?_)
    refine r_aload_n dX11_other_8 rfl ?_
    refine r_bipush (v := (-2)) dX11_other_9 rfl ?_
    refine r_cVr (As := [_]) (c_X11_bad α _ _ _) lk_11_120 rfl rfl (by decide) (by decide) rfl rfl (Nat.le_of_ble_eq_true rfl) dX11_other_11 ?_
    refine r_iret rfl dX11_other_14 ?_
    exact fd_isI rfl rfl rfl
def orP (I I' : fdI) (n : Nat) (r : Int32) : Prop := (∀ a, a ≠ 0 → a ≠ 6 → I' a = I a) ∧ (∀ j, j ≠ 17 → I' 0 j = I 0 j) ∧ I' 0 17 = 0 ∧ ∀ k, k < n → I' 6 k = nI (prm n r.toNatClampNeg k)
theorem c_X11_order (α : Nat → Nat) (I : fdI) (L : fdL) (r : Int32) {n rk : Nat} (hn : I 0 1 = nI n) (hn7 : 1 ≤ n ∧ n ≤ 7) (hrow : ∀ k, k < n → I 6 k = nI (prm n rk k)) (hrk : rk < fac n) : Con fd_SM α yX11_order mX11_order [.ref (α 0), .int r] I L (fd_ip (fun v I' L' => L' = L ∧ (dayP r (fac n) → v = .int (nI rk) ∧ orP I I' n r) ∧ (¬ dayP r (fac n) → v = .int (-2) ∧ I' = mBad I))) := by
  refine Con.of (by decide) rfl (Nat.le_of_ble_eq_true rfl) ?_
  by_cases hok : dayP r (fac n)
  · have h1 := fac_le hn7.2
    obtain ⟨j, hj, rfl⟩ := dayP_nI hok
    refine r_aload_n dX11_order_0 rfl ?_
    refine r_iload_n dX11_order_1 rfl ?_
    refine r_cVr (As := [_]) (c_X11_isRank α _ _ _ hn hn7) lk_11_150 rfl rfl (by decide) (by decide) rfl rfl (Nat.le_of_ble_eq_true rfl) dX11_order_2 ?_
    refine r_if_ne 15 dX11_order_5 (by decide) (fun h5 => ?_) (fun h5 => absurd h5 (fd_bn.mpr hok))
    refine r_aload_n dX11_order_15 rfl ?_
    refine r_aload_n dX11_order_16 rfl ?_
    refine r_getR rfl rfl fl_11_25 dX11_order_17 ?_
    refine r_cVr (As := [_]) (c_X11_rankOf α _ _ _ rfl hn hn7 hrow (prm_P hn7 hrk)) lk_11_153 rfl rfl (by decide) (by decide) rfl rfl (Nat.le_of_ble_eq_true rfl) dX11_order_20 ?_
    rw [prm_rank hn7 hrk]
    refine r_istore_n (lv' := [(2, _), (0, _), (1, _)]) dX11_order_23 (Nat.le_of_ble_eq_true rfl) rfl ?_
    refine r_aload_n dX11_order_24 rfl ?_
    refine r_iload_n dX11_order_25 rfl ?_
    refine r_aload_n dX11_order_26 rfl ?_
    refine r_getR rfl rfl fl_11_25 dX11_order_27 ?_
    refine r_cVq (As := [_, _]) (c_X11_rowOf α _ _ _ _ rfl (by decide) hn hn7 hj) lk_11_157 rfl rfl (by decide) (by decide) rfl rfl (Nat.le_of_ble_eq_true rfl) dX11_order_30 (fun I30 L30 q30 => ?_)
    obtain ⟨e30, s30, w30⟩ := q30
    refine r_aload_n dX11_order_33 rfl ?_
    refine r_iconst (v := 0) dX11_order_34 rfl ?_
    refine r_putI rfl rfl fl_11_115 fw_11_17 dX11_order_35 ?_
    refine r_iload_n dX11_order_38 rfl ?_
    refine r_iret rfl dX11_order_39 ?_
    refine ⟨_, rfl, e30, fun _ => ⟨rfl, fun a a0 a1 => by rw [fd_up_cell a0]; exact s30 a a1, fun j hj => by rw [fd_up_pl hj, s30 0 (by decide)], fd_up_same, fun k hk => ?_⟩, fun q => absurd hok q⟩
    rw [fd_up_ne (by decide), nI_clamp (by omega)]
    exact w30 k hk
  · refine r_aload_n dX11_order_0 rfl ?_
    refine r_iload_n dX11_order_1 rfl ?_
    refine r_cVr (As := [_]) (c_X11_isRank α _ _ _ hn hn7) lk_11_150 rfl rfl (by decide) (by decide) rfl rfl (Nat.le_of_ble_eq_true rfl) dX11_order_2 ?_
    refine r_if_ne 15 dX11_order_5 (by decide) (fun h5 => absurd h5 (not_not_intro (fd_b0.mpr hok))) (fun h5 => ?_)
    refine r_aload_n dX11_order_8 rfl ?_
    refine r_bipush (v := (-2)) dX11_order_9 rfl ?_
    refine r_cVr (As := [_]) (c_X11_bad α _ _ _) lk_11_120 rfl rfl (by decide) (by decide) rfl rfl (Nat.le_of_ble_eq_true rfl) dX11_order_11 ?_
    refine r_iret rfl dX11_order_14 ?_
    exact ⟨_, rfl, rfl, fun q => absurd q hok, fun _ => ⟨rfl, rfl⟩⟩
/-- the next day is lived -/
def liR (V : pV) (n nn : Nat) (p : Nat → Nat) (ly : Nat) : Int32 := if ly = n then -3 else if wlB V (knV V n nn p) (p ly) then 1 else 0
def liP (I I' : fdI) (n ly : Nat) : Prop := if ly = n then I' = mNo I else ∃ J, mSm I J ∧ I' = fd_up J 0 17 (nI (ly + 1))
theorem c_X11_live (V : pV) (α : Nat → Nat) (I : fdI) (L : fdL) {n nn np nt ly : Nat} {p : Nat → Nat} (h : mOk V I n nn np nt) (hrow : ∀ k, k < n → I 6 k = nI (p k)) (hp : isP p n) (hly : I 0 17 = nI ly) (hl : ly ≤ n) : Con fd_SM α yX11_live mX11_live [.ref (α 0)] I L (fd_ip (fun v I' L' => v = .int (liR V n nn p ly) ∧ liP I I' n ly ∧ L' = L)) := by
  refine Con.of (by decide) rfl (Nat.le_of_ble_eq_true rfl) ?_
  have hn7 := h.2.1
  unfold liR liP
  by_cases hq : ly = n
  · simp only [if_pos hq]
    refine r_aload_n dX11_live_0 rfl ?_
    refine r_getV rfl rfl fl_11_115 dX11_live_1 hly ?_
    refine r_aload_n dX11_live_4 rfl ?_
    refine r_getV rfl rfl fl_11_93 dX11_live_5 h.1 ?_
    refine r_icmp_ne 16 dX11_live_8 (by decide) (fun h8 => absurd h8 (not_not_intro (by rw [hq]))) (fun h8 => ?_)
    refine r_aload_n dX11_live_11 rfl ?_
    refine r_cVr (As := []) (c_X11_no α _ _) lk_11_131 rfl rfl (by decide) (by decide) rfl rfl (Nat.le_of_ble_eq_true rfl) dX11_live_12 ?_
    refine r_iret rfl dX11_live_15 ?_
    exact ⟨_, rfl, rfl, rfl, rfl⟩
  · simp only [if_neg hq]
    have pl := hp.1 ly (by omega)
    refine r_aload_n dX11_live_0 rfl ?_
    refine r_getV rfl rfl fl_11_115 dX11_live_1 hly ?_
    refine r_aload_n dX11_live_4 rfl ?_
    refine r_getV rfl rfl fl_11_93 dX11_live_5 h.1 ?_
    refine r_icmp_ne 16 dX11_live_8 (by decide) (fun h8 => ?_) (fun h8 => absurd h8 (fun q => hq ((nI_eq (by omega) (by omega)).mp q)))
    refine r_aload_n dX11_live_16 rfl ?_
    refine r_aload_n dX11_live_17 rfl ?_
    refine r_getR rfl rfl fl_11_25 dX11_live_18 ?_
    refine r_cVq (As := [_]) (c_lives V α _ _ _ rfl (Or.inl rfl) h hrow hp) lk_11_170 rfl rfl (by decide) (by decide) rfl rfl (Nat.le_of_ble_eq_true rfl) dX11_live_21 (fun I21 L21 q21 => ?_)
    obtain ⟨e21, s21, t21, w21⟩ := q21
    have sm2 : ∀ v, mOk V (fd_up I21 0 17 v) n nn np nt := by
      intro v
      obtain ⟨a1, a2, a3, a4, a5, a6, a7, a8, a9, a10⟩ := h.sm s21
      exact ⟨a1, a2, a3, a4, a5, a6, a7, a8, a9, a10⟩
    refine r_aload_n dX11_live_24 rfl ?_
    refine r_getR rfl rfl fl_11_25 dX11_live_25 ?_
    refine r_aload_n dX11_live_28 rfl ?_
    refine r_getV rfl rfl fl_11_115 dX11_live_29 (Eq.trans (s21.2 17 (by decide)) hly) ?_
    refine r_ialdN rfl dX11_live_32 (by omega) (by omega) (Eq.trans (by rw [s21.1 6 (by decide) (by decide) (by decide) (by decide) (by decide) (by decide) (by decide) (by decide)]) (hrow ly (by omega))) ?_
    refine r_istore_n (lv' := [(1, _), (0, _)]) dX11_live_33 (Nat.le_of_ble_eq_true rfl) rfl ?_
    refine r_aload_n dX11_live_34 rfl ?_
    refine r_dup dX11_live_35 rfl ?_
    refine r_getV rfl rfl fl_11_115 dX11_live_36 (Eq.trans (s21.2 17 (by decide)) hly) ?_
    refine r_iconst (v := 1) dX11_live_39 rfl ?_
    refine r_iadd dX11_live_40 ?_
    rw [nI_1]
    refine r_putI rfl rfl fl_11_115 fw_11_17 dX11_live_41 ?_
    refine r_aload_n dX11_live_44 rfl ?_
    refine r_iload_n dX11_live_45 rfl ?_
    refine r_cVr (As := [_]) (c_asks V α _ _ _ (sm2 _) pl) lk_11_167 rfl rfl (by decide) (by decide) rfl rfl (Nat.le_of_ble_eq_true rfl) dX11_live_46 ?_
    refine r_aload_n dX11_live_49 rfl ?_
    refine r_getR rfl rfl fl_11_52 dX11_live_50 ?_
    refine r_iload_n dX11_live_53 rfl ?_
    refine r_ialdN rfl dX11_live_54 (by omega) (by omega) (Eq.trans (fd_up_ne (by decide)) (w21.1 _ pl).2.1) ?_
    refine r_iconst (v := (-1)) dX11_live_55 rfl ?_
    refine r_ixor dX11_live_56 ?_
    refine r_iand dX11_live_57 ?_
    refine r_if_ne 65 dX11_live_58 (by decide) (fun h58 => ?_) (fun h58 => ?_)
    · have ev : wlB V (knV V n nn p) (p ly) = false := by simp only [wlB]; simpa using h58
      rw [ev]
      refine r_iconst (v := 0) dX11_live_65 rfl ?_
      refine r_iret rfl dX11_live_66 ?_
      exact ⟨_, rfl, rfl, ⟨_, s21, rfl⟩, e21⟩
    · have ev : wlB V (knV V n nn p) (p ly) = true := by simp only [wlB]; simpa using h58
      rw [ev]
      refine r_iconst (v := 1) dX11_live_61 rfl ?_
      refine r_goto (tgt := 66) dX11_live_62 (by decide) ?_
      refine r_iret rfl dX11_live_66 ?_
      exact ⟨_, rfl, rfl, ⟨_, s21, rfl⟩, e21⟩
def sfR (V : pV) (n nn : Nat) (p : Nat → Nat) (ly : Nat) (w : Int32) : Int32 := if w = 0 then nI ly else if w = 1 then nI (cnN (fun k => wlB V (knV V n nn p) (p k)) ly) else ahV V p ly
theorem c_X11_sofar (V : pV) (α : Nat → Nat) (I : fdI) (L : fdL) (w : Int32) {n nn np nt ly : Nat} {p : Nat → Nat} (h : mOk V I n nn np nt) (hrow : ∀ k, k < n → I 6 k = nI (p k)) (hp : isP p n) (hly : I 0 17 = nI ly) (hl : ly ≤ n) : Con fd_SM α yX11_sofar mX11_sofar [.ref (α 0), .int w] I L (fd_ip (qsP (dayP w 3) (sfR V n nn p ly w) (-2) I L)) := by
  refine Con.of (by decide) rfl (Nat.le_of_ble_eq_true rfl) ?_
  by_cases hok : dayP w 3
  · have hn7 := h.2.1
    have loop : ∀ I1 : fdI, mSm I I1 → lvV V I I1 n nn p → ∀ L1 : fdL, L1 = L → ∀ k, k ≤ ly → Rn fd_SM α mX11_sofar 34 [(4, .int (nI k)), (3, .int (ahV V p k)), (2, .int (nI (cnN (fun k => wlB V (knV V n nn p) (p k)) k))), (0, .ref (α 0)), (1, .int w)] [] I1 L1 (fd_ip (qsP (dayP w 3) (sfR V n nn p ly w) (-2) I L)) := by
      intro I1 s1 w1 L1 e1
      have h1 := h.sm s1
      have row1 : ∀ k, k < n → I1 6 k = nI (p k) := fun k hk => by rw [s1.1 6 (by decide) (by decide) (by decide) (by decide) (by decide) (by decide) (by decide) (by decide)]; exact hrow k hk
      have ly1 : I1 0 17 = nI ly := (s1.2 17 (by decide)).trans hly
      refine fd_down (fun k hk ih => ?_)
      by_cases hx : k = ly
      · subst hx
        refine r_iload dX11_sofar_34 rfl ?_
        refine r_aload_n dX11_sofar_36 rfl ?_
        refine r_getV rfl rfl fl_11_115 dX11_sofar_37 ly1 ?_
        refine r_icmp_ge 94 dX11_sofar_40 (by decide) (fun h40 => ?_) (fun h40 => absurd h40 (not_not_intro (Int32.le_refl _)))
        refine r_iload_n dX11_sofar_94 rfl ?_
        refine r_if_ne 105 dX11_sofar_95 (by decide) (fun h95 => ?_) (fun h95 => ?_)
        · have n0 := h95
          refine r_iload_n dX11_sofar_105 rfl ?_
          refine r_iconst (v := 1) dX11_sofar_106 rfl ?_
          refine r_icmp_ne 114 dX11_sofar_107 (by decide) (fun h107 => ?_) (fun h107 => ?_)
          · have ev : sfR V n nn p k w = ahV V p k := by unfold sfR; rw [if_neg n0, if_neg h107]
            rw [ev]
            refine r_iload_n dX11_sofar_114 rfl ?_
            refine r_iret rfl dX11_sofar_115 ?_
            exact ⟨_, rfl, qsP.yes hok e1 rfl s1⟩
          · have ev : sfR V n nn p k w = nI (cnN (fun k => wlB V (knV V n nn p) (p k)) k) := by unfold sfR; rw [if_neg n0, if_pos h107]
            rw [ev]
            refine r_iload_n dX11_sofar_110 rfl ?_
            refine r_goto (tgt := 115) dX11_sofar_111 (by decide) ?_
            refine r_iret rfl dX11_sofar_115 ?_
            exact ⟨_, rfl, qsP.yes hok e1 rfl s1⟩
        · have ev : sfR V n nn p k w = nI k := by unfold sfR; rw [if_pos h95]
          rw [ev]
          refine r_aload_n dX11_sofar_98 rfl ?_
          refine r_getV rfl rfl fl_11_115 dX11_sofar_99 ly1 ?_
          refine r_goto (tgt := 115) dX11_sofar_102 (by decide) ?_
          refine r_iret rfl dX11_sofar_115 ?_
          exact ⟨_, rfl, qsP.yes hok e1 rfl s1⟩
      · have hkn : k < n := by omega
        have pk := hp.1 k hkn
        have jn : ∀ v : Int32, nI (cnN (fun k => wlB V (knV V n nn p) (p k)) k) + v = nI (cnN (fun k => wlB V (knV V n nn p) (p k)) (k + 1)) → Rn fd_SM α mX11_sofar 77 [(5, .int (nI (p k))), (4, .int (nI k)), (3, .int (ahV V p k)), (0, .ref (α 0)), (1, .int w)] [.int v, .int (nI (cnN (fun k => wlB V (knV V n nn p) (p k)) k))] I1 L1 (fd_ip (qsP (dayP w 3) (sfR V n nn p ly w) (-2) I L)) := by
          intro v hv
          refine r_iadd dX11_sofar_77 ?_
          rw [hv]
          refine r_istore_n (lv' := [(2, _), (5, _), (4, _), (3, _), (0, _), (1, _)]) dX11_sofar_78 (Nat.le_of_ble_eq_true rfl) rfl ?_
          refine r_iload_n dX11_sofar_79 rfl ?_
          refine r_aload_n dX11_sofar_80 rfl ?_
          refine r_iload dX11_sofar_81 rfl ?_
          refine r_cVr (As := [_]) (c_learns V α _ _ _ h1 pk) lk_11_161 rfl rfl (by decide) (by decide) rfl rfl (Nat.le_of_ble_eq_true rfl) dX11_sofar_83 ?_
          refine r_ior dX11_sofar_86 ?_
          refine r_istore_n (lv' := [(3, _), (2, _), (5, _), (4, _), (0, _), (1, _)]) dX11_sofar_87 (Nat.le_of_ble_eq_true rfl) rfl ?_
          refine r_iinc (v := _ + 1) (lv' := [(4, _), (3, _), (2, _), (5, _), (0, _), (1, _)]) dX11_sofar_88 rfl rfl (Nat.le_of_ble_eq_true rfl) rfl ?_
          refine r_goto (tgt := 34) dX11_sofar_91 (by decide) ?_
          rw [nI_1]
          exact r_keep [4, 3, 2, 0, 1] rfl (ih (by omega))
        refine r_iload dX11_sofar_34 rfl ?_
        refine r_aload_n dX11_sofar_36 rfl ?_
        refine r_getV rfl rfl fl_11_115 dX11_sofar_37 ly1 ?_
        refine r_icmp_ge 94 dX11_sofar_40 (by decide) (fun h40 => absurd h40 (fun q => absurd ((nI_leI (by omega) (by omega)).mp q) (by omega))) (fun h40 => ?_)
        refine r_aload_n dX11_sofar_43 rfl ?_
        refine r_getR rfl rfl fl_11_25 dX11_sofar_44 ?_
        refine r_iload dX11_sofar_47 rfl ?_
        refine r_ialdN rfl dX11_sofar_49 (by omega) (by omega) (row1 k hkn) ?_
        refine r_istore (lv' := [(5, _), (4, _), (3, _), (2, _), (0, _), (1, _)]) dX11_sofar_50 (Nat.le_of_ble_eq_true rfl) rfl ?_
        refine r_iload_n dX11_sofar_52 rfl ?_
        refine r_aload_n dX11_sofar_53 rfl ?_
        refine r_iload dX11_sofar_54 rfl ?_
        refine r_cVr (As := [_]) (c_asks V α _ _ _ h1 pk) lk_11_167 rfl rfl (by decide) (by decide) rfl rfl (Nat.le_of_ble_eq_true rfl) dX11_sofar_56 ?_
        refine r_aload_n dX11_sofar_59 rfl ?_
        refine r_getR rfl rfl fl_11_52 dX11_sofar_60 ?_
        refine r_iload dX11_sofar_63 rfl ?_
        refine r_ialdN rfl dX11_sofar_65 (by omega) (by omega) (w1.1 _ pk).2.1 ?_
        refine r_iconst (v := (-1)) dX11_sofar_66 rfl ?_
        refine r_ixor dX11_sofar_67 ?_
        refine r_iand dX11_sofar_68 ?_
        refine r_if_ne 76 dX11_sofar_69 (by decide) (fun h69 => ?_) (fun h69 => ?_)
        · have ev : nI (cnN (fun k => wlB V (knV V n nn p) (p k)) k) + 0 = nI (cnN (fun k => wlB V (knV V n nn p) (p k)) (k + 1)) := by
            rw [Int32.add_zero]
            have : wlB V (knV V n nn p) (p k) = false := by simp only [wlB]; simpa using h69
            simp only [cnN, this]
            rfl
          refine r_iconst (v := 0) dX11_sofar_76 rfl ?_
          exact r_keep [5, 4, 3, 0, 1] rfl (jn _ ev)
        · have ev : nI (cnN (fun k => wlB V (knV V n nn p) (p k)) k) + 1 = nI (cnN (fun k => wlB V (knV V n nn p) (p k)) (k + 1)) := by
            rw [nI_1]
            have : wlB V (knV V n nn p) (p k) = true := by simp only [wlB]; simpa using h69
            simp only [cnN, this]
            rfl
          refine r_iconst (v := 1) dX11_sofar_72 rfl ?_
          refine r_goto (tgt := 77) dX11_sofar_73 (by decide) ?_
          exact r_keep [5, 4, 3, 0, 1] rfl (jn _ ev)
    refine r_iload_n dX11_sofar_0 rfl ?_
    refine r_i2l dX11_sofar_1 rfl ?_
    refine r_lconst (v := 0) dX11_sofar_2 rfl ?_
    refine r_ldc2 (v := (2 : Int64)) (fd_in 1200 (by decide +kernel) (by decide +kernel)) dX11_sofar_3 ?_
    refine r_cSr (As := [_, _, _]) (c_in2 α _ _ _) lk_11_97 (by decide) (by decide) rfl rfl (Nat.le_of_ble_eq_true rfl) dX11_sofar_6 ?_
    refine r_if_ne 19 dX11_sofar_9 (by decide) (fun h9 => ?_) (fun h9 => absurd h9 (fd_bn.mpr hok))
    refine r_aload_n dX11_sofar_19 rfl ?_
    refine r_aload_n dX11_sofar_20 rfl ?_
    refine r_getR rfl rfl fl_11_25 dX11_sofar_21 ?_
    refine r_cVq (As := [_]) (c_lives V α _ _ _ rfl (Or.inl rfl) h hrow hp) lk_11_170 rfl rfl (by decide) (by decide) rfl rfl (Nat.le_of_ble_eq_true rfl) dX11_sofar_24 (fun I24 L24 q24 => ?_)
    obtain ⟨e24, s24, t24, w24⟩ := q24
    refine r_iconst (v := 0) dX11_sofar_27 rfl ?_
    refine r_istore_n (lv' := [(2, _), (0, _), (1, _)]) dX11_sofar_28 (Nat.le_of_ble_eq_true rfl) rfl ?_
    refine r_iconst (v := 0) dX11_sofar_29 rfl ?_
    refine r_istore_n (lv' := [(3, _), (2, _), (0, _), (1, _)]) dX11_sofar_30 (Nat.le_of_ble_eq_true rfl) rfl ?_
    refine r_iconst (v := 0) dX11_sofar_31 rfl ?_
    refine r_istore (lv' := [(4, _), (3, _), (2, _), (0, _), (1, _)]) dX11_sofar_32 (Nat.le_of_ble_eq_true rfl) rfl ?_
    exact r_keep [4, 3, 2, 0, 1] rfl (loop _ s24 w24 _ e24 0 (by omega))
  · refine r_iload_n dX11_sofar_0 rfl ?_
    refine r_i2l dX11_sofar_1 rfl ?_
    refine r_lconst (v := 0) dX11_sofar_2 rfl ?_
    refine r_ldc2 (v := (2 : Int64)) (fd_in 1200 (by decide +kernel) (by decide +kernel)) dX11_sofar_3 ?_
    refine r_cSr (As := [_, _, _]) (c_in2 α _ _ _) lk_11_97 (by decide) (by decide) rfl rfl (Nat.le_of_ble_eq_true rfl) dX11_sofar_6 ?_
    refine r_if_ne 19 dX11_sofar_9 (by decide) (fun h9 => absurd h9 (not_not_intro (fd_b0.mpr hok))) (fun h9 => ?_)
    refine r_aload_n dX11_sofar_12 rfl ?_
    refine r_bipush (v := (-2)) dX11_sofar_13 rfl ?_
    refine r_cVr (As := [_]) (c_X11_bad α _ _ _) lk_11_120 rfl rfl (by decide) (by decide) rfl rfl (Nat.le_of_ble_eq_true rfl) dX11_sofar_15 ?_
    refine r_iret rfl dX11_sofar_18 ?_
    exact ⟨_, rfl, qsP.no hok⟩
theorem c_X11_both (V : pV) (α : Nat → Nat) (I : fdI) (L : fdL) {n nn np nt ot : Nat} {p : Nat → Nat} (h : mOk V I n nn np nt) (hrow : ∀ k, k < n → I 6 k = nI (p k)) (hp : isP p n) (hot : I 0 16 = nI ot) (ho : ot < fac n) : Con fd_SM α yX11_both mX11_both [.ref (α 0)] I L (fd_vp (fun I' L' => L' = L ∧ mSm I I' ∧ ∀ d, d < n → I' 18 d = knV V n nn p d ∧ I' 15 d = knV V n nn (prm n ot) d)) := by
  refine Con.of (by decide) rfl (Nat.le_of_ble_eq_true rfl) ?_
  have hn7 := h.2.1
  have loop : ∀ I0 : fdI, mSm I I0 → lvV V I I0 n nn p → ∀ k, k ≤ n → ∀ I1 : fdI, (∀ a, a ≠ 18 → I1 a = I0 a) → (∀ d, d < k → I1 18 d = knV V n nn p d) → Rn fd_SM α mX11_both 10 [(1, .int (nI k)), (0, .ref (α 0))] [] I1 L (fd_vp (fun I' L' => L' = L ∧ mSm I I' ∧ ∀ d, d < n → I' 18 d = knV V n nn p d ∧ I' 15 d = knV V n nn (prm n ot) d)) := by
    intro I0 s0 w0
    refine fd_down (fun k hk ih => ?_)
    intro I1 g1 g2
    have s1 : mSm I I1 := s0.trans ⟨fun a a0 a1 a2 a3 a4 a5 a6 a7 => g1 a a6, fun j hj => by rw [g1 0 (by decide)]⟩
    have h1 := h.sm s1
    by_cases hx : k = n
    · subst hx
      refine r_iload_n dX11_both_10 rfl ?_
      refine r_aload_n dX11_both_11 rfl ?_
      refine r_getV rfl rfl fl_11_93 dX11_both_12 h1.1 ?_
      refine r_icmp_ge 36 dX11_both_15 (by decide) (fun h15 => ?_) (fun h15 => absurd h15 (not_not_intro (Int32.le_refl _)))
      refine r_aload_n dX11_both_36 rfl ?_
      refine r_aload_n dX11_both_37 rfl ?_
      refine r_getV rfl rfl fl_11_112 dX11_both_38 (Eq.trans (s1.2 16 (by decide)) hot) ?_
      refine r_aload_n dX11_both_41 rfl ?_
      refine r_getR rfl rfl fl_11_58 dX11_both_42 ?_
      refine r_cVq (As := [_, _]) (c_X11_rowOf α _ _ 17 ot rfl (by decide) h1.1 hn7 ho) lk_11_157 rfl rfl (by decide) (by decide) rfl rfl (Nat.le_of_ble_eq_true rfl) dX11_both_45 (fun I45 L45 q45 => ?_)
      obtain ⟨e45, s45, w45⟩ := q45
      have s2 : mSm I1 I45 := ⟨fun a a0 a1 a2 a3 a4 a5 a6 a7 => s45 a a5, fun j hj => by rw [s45 0 (by decide)]⟩
      refine r_aload_n dX11_both_48 rfl ?_
      refine r_aload_n dX11_both_49 rfl ?_
      refine r_getR rfl rfl fl_11_58 dX11_both_50 ?_
      refine r_cVq (As := [_]) (c_lives V α _ _ 17 rfl (Or.inr rfl) (h1.sm s2) w45 (prm_P hn7 ho)) lk_11_170 rfl rfl (by decide) (by decide) rfl rfl (Nat.le_of_ble_eq_true rfl) dX11_both_53 (fun I53 L53 q53 => ?_)
      obtain ⟨e53, s53, t53, w53⟩ := q53
      refine r_vret rfl dX11_both_56 ?_
      exact ⟨rfl, e53.trans e45, (s1.trans s2).trans s53, fun d hd => ⟨by rw [t53.2, s45 18 (by decide)]; exact g2 d hd, (w53.1 d hd).2.1⟩⟩
    · refine r_iload_n dX11_both_10 rfl ?_
      refine r_aload_n dX11_both_11 rfl ?_
      refine r_getV rfl rfl fl_11_93 dX11_both_12 h1.1 ?_
      refine r_icmp_ge 36 dX11_both_15 (by decide) (fun h15 => absurd h15 (fun q => absurd ((nI_leI (by omega) (by omega)).mp q) (by omega))) (fun h15 => ?_)
      refine r_aload_n dX11_both_18 rfl ?_
      refine r_getR rfl rfl fl_11_61 dX11_both_19 ?_
      refine r_iload_n dX11_both_22 rfl ?_
      refine r_aload_n dX11_both_23 rfl ?_
      refine r_getR rfl rfl fl_11_52 dX11_both_24 ?_
      refine r_iload_n dX11_both_27 rfl ?_
      refine r_ialdN rfl dX11_both_28 (by omega) (by omega) (Eq.trans (by rw [g1 15 (by decide)]) (w0.1 k (by omega)).2.1) ?_
      refine r_iastN rfl dX11_both_29 (by omega) (by omega) ?_
      refine r_iinc (v := _ + 1) (lv' := [(1, _), (0, _)]) dX11_both_30 rfl rfl (Nat.le_of_ble_eq_true rfl) rfl ?_
      refine r_goto (tgt := 10) dX11_both_33 (by decide) ?_
      rw [nI_1]
      refine r_keep [1, 0] rfl (ih (by omega) _ (fun a ha => by rw [fd_up_cell ha]; exact g1 a ha) (fun d hd => ?_))
      rw [fd_up_at]
      split
      · next e => rw [e]
      · exact g2 d (by omega)
  refine r_aload_n dX11_both_0 rfl ?_
  refine r_aload_n dX11_both_1 rfl ?_
  refine r_getR rfl rfl fl_11_25 dX11_both_2 ?_
  refine r_cVq (As := [_]) (c_lives V α _ _ _ rfl (Or.inl rfl) h hrow hp) lk_11_170 rfl rfl (by decide) (by decide) rfl rfl (Nat.le_of_ble_eq_true rfl) dX11_both_5 (fun I5 L5 q5 => ?_)
  obtain ⟨e5, s5, t5, w5⟩ := q5
  subst e5
  refine r_iconst (v := 0) dX11_both_8 rfl ?_
  refine r_istore_n (lv' := [(1, _), (0, _)]) dX11_both_9 (Nat.le_of_ble_eq_true rfl) rfl ?_
  exact r_keep [1, 0] rfl (loop _ s5 w5 0 (by omega) _ (fun _ _ => rfl) (fun d hd => by omega))
def twV (V : pV) (n nn : Nat) (p q : Nat → Nat) (d : Nat) : Int32 := knV V n nn p d &&& knV V n nn q d
theorem c_X11_two (V : pV) (α : Nat → Nat) (I : fdI) (L : fdL) (d : Int32) {n nn np nt ot : Nat} {p : Nat → Nat} (h : mOk V I n nn np nt) (hrow : ∀ k, k < n → I 6 k = nI (p k)) (hp : isP p n) (hot : I 0 16 = nI ot) (ho : ot < fac n) : Con fd_SM α yX11_two mX11_two [.ref (α 0), .int d] I L (fd_ip (qsP (dayP d n) (twV V n nn p (prm n ot) d.toNatClampNeg) (-2) I L)) := by
  refine Con.of (by decide) rfl (Nat.le_of_ble_eq_true rfl) ?_
  by_cases hok : dayP d n
  · obtain ⟨j, hj, rfl⟩ := dayP_nI hok
    have hn7 := h.2.1
    rw [nI_clamp (by omega)]
    refine r_aload_n dX11_two_0 rfl ?_
    refine r_iload_n dX11_two_1 rfl ?_
    refine r_cVr (As := [_]) (c_X11_isDay α _ _ _ h.1 h.2.1) lk_11_124 rfl rfl (by decide) (by decide) rfl rfl (Nat.le_of_ble_eq_true rfl) dX11_two_2 ?_
    refine r_if_ne 15 dX11_two_5 (by decide) (fun h5 => ?_) (fun h5 => absurd h5 (fd_bn.mpr hok))
    refine r_aload_n dX11_two_15 rfl ?_
    refine r_cVq (As := []) (c_X11_both V α _ _ h hrow hp hot ho) lk_11_206 rfl rfl (by decide) (by decide) rfl rfl (Nat.le_of_ble_eq_true rfl) dX11_two_16 (fun I16 L16 q16 => ?_)
    obtain ⟨e16, s16, w16⟩ := q16
    refine r_aload_n dX11_two_19 rfl ?_
    refine r_getR rfl rfl fl_11_61 dX11_two_20 ?_
    refine r_iload_n dX11_two_23 rfl ?_
    refine r_ialdN rfl dX11_two_24 (by omega) (by omega) (w16 j hj).1 ?_
    refine r_aload_n dX11_two_25 rfl ?_
    refine r_getR rfl rfl fl_11_52 dX11_two_26 ?_
    refine r_iload_n dX11_two_29 rfl ?_
    refine r_ialdN rfl dX11_two_30 (by omega) (by omega) (w16 j hj).2 ?_
    refine r_iand dX11_two_31 ?_
    refine r_iret rfl dX11_two_32 ?_
    exact ⟨_, rfl, qsP.yes hok e16 rfl s16⟩
  · refine r_aload_n dX11_two_0 rfl ?_
    refine r_iload_n dX11_two_1 rfl ?_
    refine r_cVr (As := [_]) (c_X11_isDay α _ _ _ h.1 h.2.1) lk_11_124 rfl rfl (by decide) (by decide) rfl rfl (Nat.le_of_ble_eq_true rfl) dX11_two_2 ?_
    refine r_if_ne 15 dX11_two_5 (by decide) (fun h5 => absurd h5 (not_not_intro (fd_b0.mpr hok))) (fun h5 => ?_)
    refine r_aload_n dX11_two_8 rfl ?_
    refine r_bipush (v := (-2)) dX11_two_9 rfl ?_
    refine r_cVr (As := [_]) (c_X11_bad α _ _ _) lk_11_120 rfl rfl (by decide) (by decide) rfl rfl (Nat.le_of_ble_eq_true rfl) dX11_two_11 ?_
    refine r_iret rfl dX11_two_14 ?_
    exact ⟨_, rfl, qsP.no hok⟩
/-- whether both know the fact on a day -/
def seB (V : pV) (n nn : Nat) (p q : Nat → Nat) (f : Int32) (d : Nat) : Bool := !(twV V n nn p q d &&& (1 <<< (f &&& 31)) = 0)
/-- the first so far -/
def faF (f : Nat → Bool) : Nat → Int32
  | 0 => -1
  | k + 1 => if f k = true ∧ faF f k = -1 then nI k else faF f k
def seR (V : pV) (n nn : Nat) (p q : Nat → Nat) (f w : Int32) : Int32 := if w = 0 then nI (cnN (seB V n nn p q f) n) else faF (seB V n nn p q f) n
theorem c_X11_settle (V : pV) (α : Nat → Nat) (I : fdI) (L : fdL) (f w : Int32) {n nn np nt ot : Nat} {p : Nat → Nat} (h : mOk V I n nn np nt) (hrow : ∀ k, k < n → I 6 k = nI (p k)) (hp : isP p n) (hot : I 0 16 = nI ot) (ho : ot < fac n) : Con fd_SM α yX11_settle mX11_settle [.ref (α 0), .int f, .int w] I L (fd_ip (qsP (dayP f 6 ∧ dayP w 2) (seR V n nn p (prm n ot) f w) (-10) I L)) := by
  refine Con.of (by decide) rfl (Nat.le_of_ble_eq_true rfl) ?_
  by_cases hok : dayP f 6 ∧ dayP w 2
  · have hn7 := h.2.1
    have loop : ∀ I1 : fdI, mSm I I1 → (∀ d, d < n → I1 18 d = knV V n nn p d ∧ I1 15 d = knV V n nn (prm n ot) d) → ∀ L1 : fdL, L1 = L → ∀ k, k ≤ n → Rn fd_SM α mX11_settle 36 [(5, .int (nI k)), (4, .int (faF (seB V n nn p (prm n ot) f) k)), (3, .int (nI (cnN (seB V n nn p (prm n ot) f) k))), (0, .ref (α 0)), (1, .int f), (2, .int w)] [] I1 L1 (fd_ip (qsP (dayP f 6 ∧ dayP w 2) (seR V n nn p (prm n ot) f w) (-10) I L)) := by
      intro I1 s1 w1 L1 e1
      have h1 := h.sm s1
      refine fd_down (fun k hk ih => ?_)
      by_cases hx : k = n
      · subst hx
        refine r_iload dX11_settle_36 rfl ?_
        refine r_aload_n dX11_settle_38 rfl ?_
        refine r_getV rfl rfl fl_11_93 dX11_settle_39 h1.1 ?_
        refine r_icmp_ge 113 dX11_settle_42 (by decide) (fun h42 => ?_) (fun h42 => absurd h42 (not_not_intro (Int32.le_refl _)))
        refine r_iload_n dX11_settle_113 rfl ?_
        refine r_if_ne 121 dX11_settle_114 (by decide) (fun h114 => ?_) (fun h114 => ?_)
        · have ev : seR V k nn p (prm k ot) f w = faF (seB V k nn p (prm k ot) f) k := by unfold seR; rw [if_neg h114]
          rw [ev]
          refine r_iload dX11_settle_121 rfl ?_
          refine r_iret rfl dX11_settle_123 ?_
          exact ⟨_, rfl, qsP.yes hok e1 rfl s1⟩
        · have ev : seR V k nn p (prm k ot) f w = nI (cnN (seB V k nn p (prm k ot) f) k) := by unfold seR; rw [if_pos h114]
          rw [ev]
          refine r_iload_n dX11_settle_117 rfl ?_
          refine r_goto (tgt := 123) dX11_settle_118 (by decide) ?_
          refine r_iret rfl dX11_settle_123 ?_
          exact ⟨_, rfl, qsP.yes hok e1 rfl s1⟩
      · have hkn : k < n := by omega
        have jn : ∀ b : Bool, b = seB V n nn p (prm n ot) f k → Rn fd_SM α mX11_settle 72 [(5, .int (nI k)), (4, .int (faF (seB V n nn p (prm n ot) f) k)), (3, .int (nI (cnN (seB V n nn p (prm n ot) f) k))), (0, .ref (α 0)), (1, .int f), (2, .int w)] [.int (if b then 1 else 0)] I1 L1 (fd_ip (qsP (dayP f 6 ∧ dayP w 2) (seR V n nn p (prm n ot) f w) (-10) I L)) := by
          intro b hb
          have ih := ih hkn
          cases b with
          | true =>
            have c1 : cnN (seB V n nn p (prm n ot) f) (k + 1) = cnN (seB V n nn p (prm n ot) f) k + 1 := by simp only [cnN, ← hb]; rfl
            rw [c1] at ih
            by_cases z : faF (seB V n nn p (prm n ot) f) k = -1
            · have c2 : faF (seB V n nn p (prm n ot) f) (k + 1) = nI k := if_pos ⟨hb.symm, z⟩
              rw [c2] at ih
              refine r_istore (lv' := [(6, _), (5, _), (4, _), (3, _), (0, _), (1, _), (2, _)]) dX11_settle_72 (Nat.le_of_ble_eq_true rfl) rfl ?_
              refine r_iload dX11_settle_74 rfl ?_
              refine r_if_eq 90 dX11_settle_76 (by decide) (fun h76 => absurd h76 (by decide)) (fun h76 => ?_)
              refine r_iload dX11_settle_79 rfl ?_
              refine r_iconst (v := (-1)) dX11_settle_81 rfl ?_
              refine r_icmp_ne 90 dX11_settle_82 (by decide) (fun h82 => absurd h82 (not_not_intro z)) (fun h82 => ?_)
              refine r_iload dX11_settle_85 rfl ?_
              refine r_goto (tgt := 92) dX11_settle_87 (by decide) ?_
              refine r_istore (lv' := [(4, _), (6, _), (5, _), (3, _), (0, _), (1, _), (2, _)]) dX11_settle_92 (Nat.le_of_ble_eq_true rfl) rfl ?_
              refine r_iload_n dX11_settle_94 rfl ?_
              refine r_iload dX11_settle_95 rfl ?_
              refine r_if_eq 104 dX11_settle_97 (by decide) (fun h97 => absurd h97 (by decide)) (fun h97 => ?_)
              refine r_iconst (v := 1) dX11_settle_100 rfl ?_
              refine r_goto (tgt := 105) dX11_settle_101 (by decide) ?_
              refine r_iadd dX11_settle_105 ?_
              rw [nI_1]
              refine r_istore_n (lv' := [(3, _), (4, _), (6, _), (5, _), (0, _), (1, _), (2, _)]) dX11_settle_106 (Nat.le_of_ble_eq_true rfl) rfl ?_
              refine r_iinc (v := _ + 1) (lv' := [(5, _), (3, _), (4, _), (6, _), (0, _), (1, _), (2, _)]) dX11_settle_107 rfl rfl (Nat.le_of_ble_eq_true rfl) rfl ?_
              refine r_goto (tgt := 36) dX11_settle_110 (by decide) ?_
              rw [nI_1]
              exact r_keep [5, 4, 3, 0, 1, 2] rfl ih
            · have c2 : faF (seB V n nn p (prm n ot) f) (k + 1) = faF (seB V n nn p (prm n ot) f) k := if_neg (fun q => z q.2)
              rw [c2] at ih
              refine r_istore (lv' := [(6, _), (5, _), (4, _), (3, _), (0, _), (1, _), (2, _)]) dX11_settle_72 (Nat.le_of_ble_eq_true rfl) rfl ?_
              refine r_iload dX11_settle_74 rfl ?_
              refine r_if_eq 90 dX11_settle_76 (by decide) (fun h76 => absurd h76 (by decide)) (fun h76 => ?_)
              refine r_iload dX11_settle_79 rfl ?_
              refine r_iconst (v := (-1)) dX11_settle_81 rfl ?_
              refine r_icmp_ne 90 dX11_settle_82 (by decide) (fun h82 => ?_) (fun h82 => absurd h82 z)
              refine r_iload dX11_settle_90 rfl ?_
              refine r_istore (lv' := [(4, _), (6, _), (5, _), (3, _), (0, _), (1, _), (2, _)]) dX11_settle_92 (Nat.le_of_ble_eq_true rfl) rfl ?_
              refine r_iload_n dX11_settle_94 rfl ?_
              refine r_iload dX11_settle_95 rfl ?_
              refine r_if_eq 104 dX11_settle_97 (by decide) (fun h97 => absurd h97 (by decide)) (fun h97 => ?_)
              refine r_iconst (v := 1) dX11_settle_100 rfl ?_
              refine r_goto (tgt := 105) dX11_settle_101 (by decide) ?_
              refine r_iadd dX11_settle_105 ?_
              rw [nI_1]
              refine r_istore_n (lv' := [(3, _), (4, _), (6, _), (5, _), (0, _), (1, _), (2, _)]) dX11_settle_106 (Nat.le_of_ble_eq_true rfl) rfl ?_
              refine r_iinc (v := _ + 1) (lv' := [(5, _), (3, _), (4, _), (6, _), (0, _), (1, _), (2, _)]) dX11_settle_107 rfl rfl (Nat.le_of_ble_eq_true rfl) rfl ?_
              refine r_goto (tgt := 36) dX11_settle_110 (by decide) ?_
              rw [nI_1]
              exact r_keep [5, 4, 3, 0, 1, 2] rfl ih
          | false =>
            have c1 : cnN (seB V n nn p (prm n ot) f) (k + 1) = cnN (seB V n nn p (prm n ot) f) k := by simp only [cnN, ← hb]; rfl
            rw [c1] at ih
            have c2 : faF (seB V n nn p (prm n ot) f) (k + 1) = faF (seB V n nn p (prm n ot) f) k := if_neg (fun q => by rw [← hb] at q; cases q.1)
            rw [c2] at ih
            refine r_istore (lv' := [(6, _), (5, _), (4, _), (3, _), (0, _), (1, _), (2, _)]) dX11_settle_72 (Nat.le_of_ble_eq_true rfl) rfl ?_
            refine r_iload dX11_settle_74 rfl ?_
            refine r_if_eq 90 dX11_settle_76 (by decide) (fun h76 => ?_) (fun h76 => absurd h76 (by decide))
            refine r_iload dX11_settle_90 rfl ?_
            refine r_istore (lv' := [(4, _), (6, _), (5, _), (3, _), (0, _), (1, _), (2, _)]) dX11_settle_92 (Nat.le_of_ble_eq_true rfl) rfl ?_
            refine r_iload_n dX11_settle_94 rfl ?_
            refine r_iload dX11_settle_95 rfl ?_
            refine r_if_eq 104 dX11_settle_97 (by decide) (fun h97 => ?_) (fun h97 => absurd h97 (by decide))
            refine r_iconst (v := 0) dX11_settle_104 rfl ?_
            refine r_iadd dX11_settle_105 ?_
            rw [Int32.add_zero]
            refine r_istore_n (lv' := [(3, _), (4, _), (6, _), (5, _), (0, _), (1, _), (2, _)]) dX11_settle_106 (Nat.le_of_ble_eq_true rfl) rfl ?_
            refine r_iinc (v := _ + 1) (lv' := [(5, _), (3, _), (4, _), (6, _), (0, _), (1, _), (2, _)]) dX11_settle_107 rfl rfl (Nat.le_of_ble_eq_true rfl) rfl ?_
            refine r_goto (tgt := 36) dX11_settle_110 (by decide) ?_
            rw [nI_1]
            exact r_keep [5, 4, 3, 0, 1, 2] rfl ih
        refine r_iload dX11_settle_36 rfl ?_
        refine r_aload_n dX11_settle_38 rfl ?_
        refine r_getV rfl rfl fl_11_93 dX11_settle_39 h1.1 ?_
        refine r_icmp_ge 113 dX11_settle_42 (by decide) (fun h42 => absurd h42 (fun q => absurd ((nI_leI (by omega) (by omega)).mp q) (by omega))) (fun h42 => ?_)
        refine r_aload_n dX11_settle_45 rfl ?_
        refine r_getR rfl rfl fl_11_61 dX11_settle_46 ?_
        refine r_iload dX11_settle_49 rfl ?_
        refine r_ialdN rfl dX11_settle_51 (by omega) (by omega) (w1 k hkn).1 ?_
        refine r_aload_n dX11_settle_52 rfl ?_
        refine r_getR rfl rfl fl_11_52 dX11_settle_53 ?_
        refine r_iload dX11_settle_56 rfl ?_
        refine r_ialdN rfl dX11_settle_58 (by omega) (by omega) (w1 k hkn).2 ?_
        refine r_iand dX11_settle_59 ?_
        refine r_iconst (v := 1) dX11_settle_60 rfl ?_
        refine r_iload_n dX11_settle_61 rfl ?_
        refine r_ishl dX11_settle_62 ?_
        refine r_iand dX11_settle_63 ?_
        refine r_if_eq 71 dX11_settle_64 (by decide) (fun h64 => ?_) (fun h64 => ?_)
        · have ev : false = seB V n nn p (prm n ot) f k := by
            have z : twV V n nn p (prm n ot) k &&& (1 <<< (f &&& 31)) = 0 := h64
            unfold seB; rw [decide_eq_true z]; rfl
          refine r_iconst (v := 0) dX11_settle_71 rfl ?_
          exact r_keep [5, 4, 3, 0, 1, 2] rfl (jn _ ev)
        · have ev : true = seB V n nn p (prm n ot) f k := by
            have z : ¬ twV V n nn p (prm n ot) k &&& (1 <<< (f &&& 31)) = 0 := h64
            unfold seB; rw [decide_eq_false z]; rfl
          refine r_iconst (v := 1) dX11_settle_67 rfl ?_
          refine r_goto (tgt := 72) dX11_settle_68 (by decide) ?_
          exact r_keep [5, 4, 3, 0, 1, 2] rfl (jn _ ev)
    refine r_iload_n dX11_settle_0 rfl ?_
    refine r_cSr (As := [_]) (c_X11_isFact α _ _ _) lk_11_128 (by decide) (by decide) rfl rfl (Nat.le_of_ble_eq_true rfl) dX11_settle_1 ?_
    refine r_if_eq 17 dX11_settle_4 (by decide) (fun h4 => absurd h4 (fd_bn.mpr hok.1)) (fun h4 => ?_)
    refine r_iload_n dX11_settle_7 rfl ?_
    refine r_i2l dX11_settle_8 rfl ?_
    refine r_lconst (v := 0) dX11_settle_9 rfl ?_
    refine r_lconst (v := 1) dX11_settle_10 rfl ?_
    refine r_cSr (As := [_, _, _]) (c_in1 α _ _ _) lk_11_97 (by decide) (by decide) rfl rfl (Nat.le_of_ble_eq_true rfl) dX11_settle_11 ?_
    refine r_if_ne 24 dX11_settle_14 (by decide) (fun h14 => ?_) (fun h14 => absurd h14 (fd_bn.mpr hok.2))
    refine r_aload_n dX11_settle_24 rfl ?_
    refine r_cVq (As := []) (c_X11_both V α _ _ h hrow hp hot ho) lk_11_206 rfl rfl (by decide) (by decide) rfl rfl (Nat.le_of_ble_eq_true rfl) dX11_settle_25 (fun I25 L25 q25 => ?_)
    obtain ⟨e25, s25, w25⟩ := q25
    refine r_iconst (v := 0) dX11_settle_28 rfl ?_
    refine r_istore_n (lv' := [(3, _), (0, _), (1, _), (2, _)]) dX11_settle_29 (Nat.le_of_ble_eq_true rfl) rfl ?_
    refine r_iconst (v := (-1)) dX11_settle_30 rfl ?_
    refine r_istore (lv' := [(4, _), (3, _), (0, _), (1, _), (2, _)]) dX11_settle_31 (Nat.le_of_ble_eq_true rfl) rfl ?_
    refine r_iconst (v := 0) dX11_settle_33 rfl ?_
    refine r_istore (lv' := [(5, _), (4, _), (3, _), (0, _), (1, _), (2, _)]) dX11_settle_34 (Nat.le_of_ble_eq_true rfl) rfl ?_
    exact r_keep [5, 4, 3, 0, 1, 2] rfl (loop _ s25 w25 _ e25 0 (by omega))
  · refine r_iload_n dX11_settle_0 rfl ?_
    refine r_cSr (As := [_]) (c_X11_isFact α _ _ _) lk_11_128 (by decide) (by decide) rfl rfl (Nat.le_of_ble_eq_true rfl) dX11_settle_1 ?_
    refine r_if_eq 17 dX11_settle_4 (by decide) (fun h4 => ?_) (fun h4 => ?_)
    · refine r_aload_n dX11_settle_17 rfl ?_
      refine r_bipush (v := (-10)) dX11_settle_18 rfl ?_
      refine r_cVr (As := [_]) (c_X11_bad α _ _ _) lk_11_120 rfl rfl (by decide) (by decide) rfl rfl (Nat.le_of_ble_eq_true rfl) dX11_settle_20 ?_
      refine r_iret rfl dX11_settle_23 ?_
      exact ⟨_, rfl, qsP.no hok⟩
    · refine r_iload_n dX11_settle_7 rfl ?_
      refine r_i2l dX11_settle_8 rfl ?_
      refine r_lconst (v := 0) dX11_settle_9 rfl ?_
      refine r_lconst (v := 1) dX11_settle_10 rfl ?_
      refine r_cSr (As := [_, _, _]) (c_in1 α _ _ _) lk_11_97 (by decide) (by decide) rfl rfl (Nat.le_of_ble_eq_true rfl) dX11_settle_11 ?_
      refine r_if_ne 24 dX11_settle_14 (by decide) (fun h14 => absurd h14 (not_not_intro (fd_b0.mpr (fun q => hok ⟨fd_bn.mp h4, q⟩)))) (fun h14 => ?_)
      refine r_aload_n dX11_settle_17 rfl ?_
      refine r_bipush (v := (-10)) dX11_settle_18 rfl ?_
      refine r_cVr (As := [_]) (c_X11_bad α _ _ _) lk_11_120 rfl rfl (by decide) (by decide) rfl rfl (Nat.le_of_ble_eq_true rfl) dX11_settle_20 ?_
      refine r_iret rfl dX11_settle_23 ?_
      exact ⟨_, rfl, qsP.no hok⟩
