/-! the model: what she knows -/
theorem c_asks (V : pV) (α : Nat → Nat) (I : fdI) (L : fdL) (d : Nat) {n nn np nt : Nat} (h : mOk V I n nn np nt) (hd : d < n) : Con fd_SM α yX11_asks mX11_asks [.ref (α 0), .int (nI d)] I L (fd_is (some (.int (akV V d))) I L) := by
  have k := c_X11_asks α I L d (by have := h.2.1.2; omega)
  rwa [akV_congr (h.2.2.2.2.2.2.2.2.1.1 d hd).1 (h.2.2.2.2.2.2.2.2.1.1 d hd).2.1] at k
theorem c_learns (V : pV) (α : Nat → Nat) (I : fdI) (L : fdL) (d : Nat) {n nn np nt : Nat} (h : mOk V I n nn np nt) (hd : d < n) : Con fd_SM α yX11_learns mX11_learns [.ref (α 0), .int (nI d)] I L (fd_is (some (.int (lnV V d))) I L) := by
  have k := c_X11_learns α I L d (by have := h.2.1.2; omega)
  have g := h.2.2.2.2.2.2.2.2.1.1 d hd
  rwa [lnV_congr g.1 g.2.1 g.2.2.1] at k
/-- a question's end: answered, or refused -/
def qsP (c : Prop) (r bad : Int32) (I : fdI) (L : fdL) (v : Value) (I' : fdI) (L' : fdL) : Prop := L' = L ∧ (c → v = .int r ∧ mSm I I') ∧ (¬ c → v = .int bad ∧ I' = mBad I)
theorem qsP.yes {c : Prop} {r bad : Int32} {I I' : fdI} {L L' : fdL} {v : Value} (h : c) (hL : L' = L) (hv : v = .int r) (hs : mSm I I') : qsP c r bad I L v I' L' := ⟨hL, fun _ => ⟨hv, hs⟩, fun q => absurd h q⟩
theorem qsP.no {c : Prop} {r bad : Int32} {I : fdI} {L : fdL} (h : ¬ c) : qsP c r bad I L (.int bad) (mBad I) L := ⟨rfl, fun q => absurd q h, fun _ => ⟨rfl, rfl⟩⟩
theorem c_X11_knows (V : pV) (α : Nat → Nat) (I : fdI) (L : fdL) (d : Int32) {n nn np nt : Nat} {p : Nat → Nat} (h : mOk V I n nn np nt) (hrow : ∀ k, k < n → I 6 k = nI (p k)) (hp : isP p n) : Con fd_SM α yX11_knows mX11_knows [.ref (α 0), .int d] I L (fd_ip (qsP (dayP d n) (knV V n nn p d.toNatClampNeg) (-2) I L)) := by
  refine Con.of (by decide) rfl (Nat.le_of_ble_eq_true rfl) ?_
  by_cases hok : dayP d n
  · obtain ⟨j, hj, rfl⟩ := dayP_nI hok
    have hn7 := h.2.1
    rw [nI_clamp (by omega)]
    refine r_aload_n dX11_knows_0 rfl ?_
    refine r_iload_n dX11_knows_1 rfl ?_
    refine r_cVr (As := [_]) (c_X11_isDay α _ _ _ h.1 h.2.1) lk_11_124 rfl rfl (by decide) (by decide) rfl rfl (Nat.le_of_ble_eq_true rfl) dX11_knows_2 ?_
    refine r_if_ne 15 dX11_knows_5 (by decide) (fun h5 => ?_) (fun h5 => absurd h5 (fd_bn.mpr hok))
    refine r_aload_n dX11_knows_15 rfl ?_
    refine r_aload_n dX11_knows_16 rfl ?_
    refine r_getR rfl rfl fl_11_25 dX11_knows_17 ?_
    refine r_cVq (As := [_]) (c_lives V α _ _ _ rfl (Or.inl rfl) h hrow hp) lk_11_170 rfl rfl (by decide) (by decide) rfl rfl (Nat.le_of_ble_eq_true rfl) dX11_knows_20 (fun I20 L20 q20 => ?_)
    obtain ⟨e20, s20, t20, w20⟩ := q20
    refine r_aload_n dX11_knows_23 rfl ?_
    refine r_getR rfl rfl fl_11_52 dX11_knows_24 ?_
    refine r_iload_n dX11_knows_27 rfl ?_
    refine r_ialdN rfl dX11_knows_28 (by omega) (by omega) (w20.1 j hj).2.1 ?_
    refine r_iret rfl dX11_knows_29 ?_
    exact ⟨_, rfl, qsP.yes hok e20 rfl s20⟩
  · refine r_aload_n dX11_knows_0 rfl ?_
    refine r_iload_n dX11_knows_1 rfl ?_
    refine r_cVr (As := [_]) (c_X11_isDay α _ _ _ h.1 h.2.1) lk_11_124 rfl rfl (by decide) (by decide) rfl rfl (Nat.le_of_ble_eq_true rfl) dX11_knows_2 ?_
    refine r_if_ne 15 dX11_knows_5 (by decide) (fun h5 => absurd h5 (not_not_intro (fd_b0.mpr hok))) (fun h5 => ?_)
    refine r_aload_n dX11_knows_8 rfl ?_
    refine r_bipush (v := (-2)) dX11_knows_9 rfl ?_
    refine r_cVr (As := [_]) (c_X11_bad α _ _ _) lk_11_120 rfl rfl (by decide) (by decide) rfl rfl (Nat.le_of_ble_eq_true rfl) dX11_knows_11 ?_
    refine r_iret rfl dX11_knows_14 ?_
    exact ⟨_, rfl, qsP.no hok⟩
theorem c_X11_reads (V : pV) (α : Nat → Nat) (I : fdI) (L : fdL) (d : Int32) {n nn np nt : Nat} {p : Nat → Nat} (h : mOk V I n nn np nt) (hrow : ∀ k, k < n → I 6 k = nI (p k)) (hp : isP p n) : Con fd_SM α yX11_reads mX11_reads [.ref (α 0), .int d] I L (fd_ip (qsP (dayP d n) (rdV V nn (knV V n nn p) d.toNatClampNeg) (-2) I L)) := by
  refine Con.of (by decide) rfl (Nat.le_of_ble_eq_true rfl) ?_
  by_cases hok : dayP d n
  · obtain ⟨j, hj, rfl⟩ := dayP_nI hok
    have hn7 := h.2.1
    rw [nI_clamp (by omega)]
    refine r_aload_n dX11_reads_0 rfl ?_
    refine r_iload_n dX11_reads_1 rfl ?_
    refine r_cVr (As := [_]) (c_X11_isDay α _ _ _ h.1 h.2.1) lk_11_124 rfl rfl (by decide) (by decide) rfl rfl (Nat.le_of_ble_eq_true rfl) dX11_reads_2 ?_
    refine r_if_ne 15 dX11_reads_5 (by decide) (fun h5 => ?_) (fun h5 => absurd h5 (fd_bn.mpr hok))
    refine r_aload_n dX11_reads_15 rfl ?_
    refine r_aload_n dX11_reads_16 rfl ?_
    refine r_getR rfl rfl fl_11_25 dX11_reads_17 ?_
    refine r_cVq (As := [_]) (c_lives V α _ _ _ rfl (Or.inl rfl) h hrow hp) lk_11_170 rfl rfl (by decide) (by decide) rfl rfl (Nat.le_of_ble_eq_true rfl) dX11_reads_20 (fun I20 L20 q20 => ?_)
    obtain ⟨e20, s20, t20, w20⟩ := q20
    refine r_aload_n dX11_reads_23 rfl ?_
    refine r_getR rfl rfl fl_11_49 dX11_reads_24 ?_
    refine r_iload_n dX11_reads_27 rfl ?_
    refine r_ialdN rfl dX11_reads_28 (by omega) (by omega) (w20.1 j hj).2.2 ?_
    refine r_iret rfl dX11_reads_29 ?_
    exact ⟨_, rfl, qsP.yes hok e20 rfl s20⟩
  · refine r_aload_n dX11_reads_0 rfl ?_
    refine r_iload_n dX11_reads_1 rfl ?_
    refine r_cVr (As := [_]) (c_X11_isDay α _ _ _ h.1 h.2.1) lk_11_124 rfl rfl (by decide) (by decide) rfl rfl (Nat.le_of_ble_eq_true rfl) dX11_reads_2 ?_
    refine r_if_ne 15 dX11_reads_5 (by decide) (fun h5 => absurd h5 (not_not_intro (fd_b0.mpr hok))) (fun h5 => ?_)
    refine r_aload_n dX11_reads_8 rfl ?_
    refine r_bipush (v := (-2)) dX11_reads_9 rfl ?_
    refine r_cVr (As := [_]) (c_X11_bad α _ _ _) lk_11_120 rfl rfl (by decide) (by decide) rfl rfl (Nat.le_of_ble_eq_true rfl) dX11_reads_11 ?_
    refine r_iret rfl dX11_reads_14 ?_
    exact ⟨_, rfl, qsP.no hok⟩
def miV (V : pV) (K : Nat → Int32) (d : Nat) : Int32 := akV V d &&& (K d ^^^ -1)
theorem c_X11_missing (V : pV) (α : Nat → Nat) (I : fdI) (L : fdL) (d : Int32) {n nn np nt : Nat} {p : Nat → Nat} (h : mOk V I n nn np nt) (hrow : ∀ k, k < n → I 6 k = nI (p k)) (hp : isP p n) : Con fd_SM α yX11_missing mX11_missing [.ref (α 0), .int d] I L (fd_ip (qsP (dayP d n) (miV V (knV V n nn p) d.toNatClampNeg) (-2) I L)) := by
  refine Con.of (by decide) rfl (Nat.le_of_ble_eq_true rfl) ?_
  by_cases hok : dayP d n
  · obtain ⟨j, hj, rfl⟩ := dayP_nI hok
    have hn7 := h.2.1
    rw [nI_clamp (by omega)]
    refine r_aload_n dX11_missing_0 rfl ?_
    refine r_iload_n dX11_missing_1 rfl ?_
    refine r_cVr (As := [_]) (c_X11_isDay α _ _ _ h.1 h.2.1) lk_11_124 rfl rfl (by decide) (by decide) rfl rfl (Nat.le_of_ble_eq_true rfl) dX11_missing_2 ?_
    refine r_if_ne 15 dX11_missing_5 (by decide) (fun h5 => ?_) (fun h5 => absurd h5 (fd_bn.mpr hok))
    refine r_aload_n dX11_missing_15 rfl ?_
    refine r_aload_n dX11_missing_16 rfl ?_
    refine r_getR rfl rfl fl_11_25 dX11_missing_17 ?_
    refine r_cVq (As := [_]) (c_lives V α _ _ _ rfl (Or.inl rfl) h hrow hp) lk_11_170 rfl rfl (by decide) (by decide) rfl rfl (Nat.le_of_ble_eq_true rfl) dX11_missing_20 (fun I20 L20 q20 => ?_)
    obtain ⟨e20, s20, t20, w20⟩ := q20
    refine r_aload_n dX11_missing_23 rfl ?_
    refine r_iload_n dX11_missing_24 rfl ?_
    refine r_cVr (As := [_]) (c_asks V α _ _ _ (h.sm s20) hj) lk_11_167 rfl rfl (by decide) (by decide) rfl rfl (Nat.le_of_ble_eq_true rfl) dX11_missing_25 ?_
    refine r_aload_n dX11_missing_28 rfl ?_
    refine r_getR rfl rfl fl_11_52 dX11_missing_29 ?_
    refine r_iload_n dX11_missing_32 rfl ?_
    refine r_ialdN rfl dX11_missing_33 (by omega) (by omega) (w20.1 j hj).2.1 ?_
    refine r_iconst (v := (-1)) dX11_missing_34 rfl ?_
    refine r_ixor dX11_missing_35 ?_
    refine r_iand dX11_missing_36 ?_
    refine r_iret rfl dX11_missing_37 ?_
    exact ⟨_, rfl, qsP.yes hok e20 rfl s20⟩
  · refine r_aload_n dX11_missing_0 rfl ?_
    refine r_iload_n dX11_missing_1 rfl ?_
    refine r_cVr (As := [_]) (c_X11_isDay α _ _ _ h.1 h.2.1) lk_11_124 rfl rfl (by decide) (by decide) rfl rfl (Nat.le_of_ble_eq_true rfl) dX11_missing_2 ?_
    refine r_if_ne 15 dX11_missing_5 (by decide) (fun h5 => absurd h5 (not_not_intro (fd_b0.mpr hok))) (fun h5 => ?_)
    refine r_aload_n dX11_missing_8 rfl ?_
    refine r_bipush (v := (-2)) dX11_missing_9 rfl ?_
    refine r_cVr (As := [_]) (c_X11_bad α _ _ _) lk_11_120 rfl rfl (by decide) (by decide) rfl rfl (Nat.le_of_ble_eq_true rfl) dX11_missing_11 ?_
    refine r_iret rfl dX11_missing_14 ?_
    exact ⟨_, rfl, qsP.no hok⟩
/-- the first that does not go well, of m from k on -/
def fiA (f : Nat → Bool) (p : Nat → Nat) : Nat → Nat → Int32
  | 0, _ => -1
  | m + 1, k => if f k then fiA f p m (k + 1) else nI (p k)
def fiV (V : pV) (n nn : Nat) (p : Nat → Nat) : Int32 := fiA (fun k => wlB V (knV V n nn p) (p k)) p n 0
theorem c_X11_first (V : pV) (α : Nat → Nat) (I : fdI) (L : fdL) (w : Int32) {n nn np nt : Nat} {p : Nat → Nat} (h : mOk V I n nn np nt) (hrow : ∀ k, k < n → I 6 k = nI (p k)) (hp : isP p n) : Con fd_SM α yX11_first mX11_first [.ref (α 0), .int w] I L (fd_ip (qsP (dayP w 2) (if w = 0 then fiV V n nn p else nI (wlN V n nn p)) (-2) I L)) := by
  refine Con.of (by decide) rfl (Nat.le_of_ble_eq_true rfl) ?_
  by_cases hok : dayP w 2
  · have hn7 := h.2.1
    have loop : ∀ I1 : fdI, mSm I I1 → lvV V I I1 n nn p → ∀ L1 : fdL, L1 = L → ∀ j k, k + j = n → Rn fd_SM α mX11_first 34 [(3, .int (avI k)), (2, .int (fiA (fun k => wlB V (knV V n nn p) (p k)) p j k)), (0, .ref (α 0)), (1, .int w)] [] I1 L1 (fd_ip (qsP (dayP w 2) (if w = 0 then fiV V n nn p else nI (wlN V n nn p)) (-2) I L)) := by
      intro I1 s1 w1 L1 e1 j k
      have h1 := h.sm s1
      have row1 : ∀ k, k < n → I1 6 k = nI (p k) := fun k hk => by rw [s1.1 6 (by decide) (by decide) (by decide) (by decide) (by decide) (by decide) (by decide) (by decide)]; exact hrow k hk
      induction k generalizing j with
      | zero =>
        intro hj
        have : j = n := by omega
        subst this
        refine r_iload_n dX11_first_34 rfl ?_
        refine r_if_lt 82 dX11_first_35 (by decide) (fun h35 => ?_) (fun h35 => absurd h35 (not_not_intro (by decide)))
        refine r_iload_n dX11_first_82 rfl ?_
        refine r_if_ne 90 dX11_first_83 (by decide) (fun h83 => ?_) (fun h83 => ?_)
        · rw [if_neg h83]
          refine r_aload_n dX11_first_90 rfl ?_
          refine r_getV rfl rfl fl_11_164 dX11_first_91 w1.2 ?_
          refine r_iret rfl dX11_first_94 ?_
          exact ⟨_, rfl, qsP.yes hok e1 rfl s1⟩
        · rw [if_pos h83]
          refine r_iload_n dX11_first_86 rfl ?_
          refine r_goto (tgt := 94) dX11_first_87 (by decide) ?_
          refine r_iret rfl dX11_first_94 ?_
          exact ⟨_, rfl, qsP.yes hok e1 rfl s1⟩
      | succ k ih =>
        intro hj
        have hk : k < n := by omega
        have pk := hp.1 k hk
        have jn : ∀ v, v = fiA (fun k => wlB V (knV V n nn p) (p k)) p (j + 1) k → Rn fd_SM α mX11_first 75 [(3, .int (nI k)), (0, .ref (α 0)), (1, .int w)] [.int v] I1 L1 (fd_ip (qsP (dayP w 2) (if w = 0 then fiV V n nn p else nI (wlN V n nn p)) (-2) I L)) := by
          intro v hv
          subst hv
          refine r_istore_n (lv' := [(2, _), (3, _), (0, _), (1, _)]) dX11_first_75 (Nat.le_of_ble_eq_true rfl) rfl ?_
          refine r_iinc (v := _ + (-1)) (lv' := [(3, _), (2, _), (0, _), (1, _)]) dX11_first_76 rfl rfl (Nat.le_of_ble_eq_true rfl) rfl ?_
          rw [avI_m]
          refine r_goto (tgt := 34) dX11_first_79 (by decide) ?_
          exact r_keep [3, 2, 0, 1] rfl (ih (j + 1) (by omega))
        show Rn fd_SM α mX11_first 34 [(3, .int (nI k)), (2, .int (fiA (fun k => wlB V (knV V n nn p) (p k)) p j (k + 1))), (0, .ref (α 0)), (1, .int w)] [] I1 L1 _
        refine r_iload_n dX11_first_34 rfl ?_
        refine r_if_lt 82 dX11_first_35 (by decide) (fun h35 => absurd h35 (nI_pos (by omega))) (fun h35 => ?_)
        refine r_aload_n dX11_first_38 rfl ?_
        refine r_aload_n dX11_first_39 rfl ?_
        refine r_getR rfl rfl fl_11_25 dX11_first_40 ?_
        refine r_iload_n dX11_first_43 rfl ?_
        refine r_ialdN rfl dX11_first_44 (by omega) (by omega) (row1 k hk) ?_
        refine r_cVr (As := [_]) (c_asks V α _ _ _ h1 pk) lk_11_167 rfl rfl (by decide) (by decide) rfl rfl (Nat.le_of_ble_eq_true rfl) dX11_first_45 ?_
        refine r_aload_n dX11_first_48 rfl ?_
        refine r_getR rfl rfl fl_11_52 dX11_first_49 ?_
        refine r_aload_n dX11_first_52 rfl ?_
        refine r_getR rfl rfl fl_11_25 dX11_first_53 ?_
        refine r_iload_n dX11_first_56 rfl ?_
        refine r_ialdN rfl dX11_first_57 (by omega) (by omega) (row1 k hk) ?_
        refine r_ialdN rfl dX11_first_58 (by omega) (by omega) (w1.1 _ pk).2.1 ?_
        refine r_iconst (v := (-1)) dX11_first_59 rfl ?_
        refine r_ixor dX11_first_60 ?_
        refine r_iand dX11_first_61 ?_
        refine r_if_ne 69 dX11_first_62 (by decide) (fun h62 => ?_) (fun h62 => ?_)
        · have ev : nI (p k) = fiA (fun k => wlB V (knV V n nn p) (p k)) p (j + 1) k := by
            show _ = if wlB V (knV V n nn p) (p k) = true then _ else _
            rw [if_neg (by simp only [wlB]; simpa using h62)]
          refine r_aload_n dX11_first_69 rfl ?_
          refine r_getR rfl rfl fl_11_25 dX11_first_70 ?_
          refine r_iload_n dX11_first_73 rfl ?_
          refine r_ialdN rfl dX11_first_74 (by omega) (by omega) (row1 k hk) ?_
          exact r_keep [3, 0, 1] rfl (jn _ ev)
        · have ev : fiA (fun k => wlB V (knV V n nn p) (p k)) p j (k + 1) = fiA (fun k => wlB V (knV V n nn p) (p k)) p (j + 1) k := by
            show _ = if wlB V (knV V n nn p) (p k) = true then _ else _
            rw [if_pos (by simp only [wlB]; simpa using h62)]
          refine r_iload_n dX11_first_65 rfl ?_
          refine r_goto (tgt := 75) dX11_first_66 (by decide) ?_
          exact r_keep [3, 0, 1] rfl (jn _ ev)
    have en1 : nI n - 1 = avI n := by
      obtain ⟨m, rfl⟩ : ∃ m, n = m + 1 := ⟨n - 1, by omega⟩
      exact nI_pred m
    refine r_iload_n dX11_first_0 rfl ?_
    refine r_i2l dX11_first_1 rfl ?_
    refine r_lconst (v := 0) dX11_first_2 rfl ?_
    refine r_lconst (v := 1) dX11_first_3 rfl ?_
    refine r_cSr (As := [_, _, _]) (c_in1 α _ _ _) lk_11_97 (by decide) (by decide) rfl rfl (Nat.le_of_ble_eq_true rfl) dX11_first_4 ?_
    refine r_if_ne 17 dX11_first_7 (by decide) (fun h7 => ?_) (fun h7 => absurd h7 (fd_bn.mpr hok))
    refine r_aload_n dX11_first_17 rfl ?_
    refine r_aload_n dX11_first_18 rfl ?_
    refine r_getR rfl rfl fl_11_25 dX11_first_19 ?_
    refine r_cVq (As := [_]) (c_lives V α _ _ _ rfl (Or.inl rfl) h hrow hp) lk_11_170 rfl rfl (by decide) (by decide) rfl rfl (Nat.le_of_ble_eq_true rfl) dX11_first_22 (fun I22 L22 q22 => ?_)
    obtain ⟨e22, s22, t22, w22⟩ := q22
    refine r_iconst (v := (-1)) dX11_first_25 rfl ?_
    refine r_istore_n (lv' := [(2, _), (0, _), (1, _)]) dX11_first_26 (Nat.le_of_ble_eq_true rfl) rfl ?_
    refine r_aload_n dX11_first_27 rfl ?_
    refine r_getV rfl rfl fl_11_93 dX11_first_28 (h.sm s22).1 ?_
    refine r_iconst (v := 1) dX11_first_31 rfl ?_
    refine r_isub dX11_first_32 ?_
    rw [en1]
    refine r_istore_n (lv' := [(3, _), (2, _), (0, _), (1, _)]) dX11_first_33 (Nat.le_of_ble_eq_true rfl) rfl ?_
    exact r_keep [3, 2, 0, 1] rfl (loop _ s22 w22 _ e22 0 n (by omega))
  · refine r_iload_n dX11_first_0 rfl ?_
    refine r_i2l dX11_first_1 rfl ?_
    refine r_lconst (v := 0) dX11_first_2 rfl ?_
    refine r_lconst (v := 1) dX11_first_3 rfl ?_
    refine r_cSr (As := [_, _, _]) (c_in1 α _ _ _) lk_11_97 (by decide) (by decide) rfl rfl (Nat.le_of_ble_eq_true rfl) dX11_first_4 ?_
    refine r_if_ne 17 dX11_first_7 (by decide) (fun h7 => absurd h7 (not_not_intro (fd_b0.mpr hok))) (fun h7 => ?_)
    refine r_aload_n dX11_first_10 rfl ?_
    refine r_bipush (v := (-2)) dX11_first_11 rfl ?_
    refine r_cVr (As := [_]) (c_X11_bad α _ _ _) lk_11_120 rfl rfl (by decide) (by decide) rfl rfl (Nat.le_of_ble_eq_true rfl) dX11_first_13 ?_
    refine r_iret rfl dX11_first_16 ?_
    exact ⟨_, rfl, qsP.no hok⟩
def caV (V : pV) (n nn : Nat) (p : Nat → Nat) (d : Nat) : Int32 := orN (knV V n nn p) d &&& (knV V n nn p d ^^^ -1)
theorem c_X11_cards (V : pV) (α : Nat → Nat) (I : fdI) (L : fdL) (d : Int32) {n nn np nt : Nat} {p : Nat → Nat} (h : mOk V I n nn np nt) (hrow : ∀ k, k < n → I 6 k = nI (p k)) (hp : isP p n) : Con fd_SM α yX11_cards mX11_cards [.ref (α 0), .int d] I L (fd_ip (qsP (dayP d n) (caV V n nn p d.toNatClampNeg) (-2) I L)) := by
  refine Con.of (by decide) rfl (Nat.le_of_ble_eq_true rfl) ?_
  by_cases hok : dayP d n
  · obtain ⟨j, hj, rfl⟩ := dayP_nI hok
    have hn7 := h.2.1
    rw [nI_clamp (by omega)]
    have loop : ∀ I1 : fdI, mSm I I1 → lvV V I I1 n nn p → ∀ L1 : fdL, L1 = L → ∀ k, k ≤ j → Rn fd_SM α mX11_cards 27 [(3, .int (nI k)), (2, .int (orN (knV V n nn p) k)), (0, .ref (α 0)), (1, .int (nI j))] [] I1 L1 (fd_ip (qsP (dayP (nI j) n) (caV V n nn p j) (-2) I L)) := by
      intro I1 s1 w1 L1 e1
      refine fd_down (fun k hk ih => ?_)
      refine r_iload_n dX11_cards_27 rfl ?_
      refine r_iload_n dX11_cards_28 rfl ?_
      refine r_icmp_ge 47 dX11_cards_29 (by decide) (fun h29 => ?_) (fun h29 => ?_)
      · have hh := (nI_leI (by omega) (by omega)).mp h29
        have e : k = j := by omega
        subst e
        refine r_iload_n dX11_cards_47 rfl ?_
        refine r_aload_n dX11_cards_48 rfl ?_
        refine r_getR rfl rfl fl_11_52 dX11_cards_49 ?_
        refine r_iload_n dX11_cards_52 rfl ?_
        refine r_ialdN rfl dX11_cards_53 (by omega) (by omega) (w1.1 k hj).2.1 ?_
        refine r_iconst (v := (-1)) dX11_cards_54 rfl ?_
        refine r_ixor dX11_cards_55 ?_
        refine r_iand dX11_cards_56 ?_
        refine r_iret rfl dX11_cards_57 ?_
        exact ⟨_, rfl, qsP.yes hok e1 rfl s1⟩
      · have hh : k < j := Nat.lt_of_not_le fun q => h29 ((nI_leI (by omega) (by omega)).mpr q)
        refine r_iload_n dX11_cards_32 rfl ?_
        refine r_aload_n dX11_cards_33 rfl ?_
        refine r_getR rfl rfl fl_11_52 dX11_cards_34 ?_
        refine r_iload_n dX11_cards_37 rfl ?_
        refine r_ialdN rfl dX11_cards_38 (by omega) (by omega) (w1.1 k (by omega)).2.1 ?_
        refine r_ior dX11_cards_39 ?_
        refine r_istore_n (lv' := [(2, _), (3, _), (0, _), (1, _)]) dX11_cards_40 (Nat.le_of_ble_eq_true rfl) rfl ?_
        refine r_iinc (v := _ + 1) (lv' := [(3, _), (2, _), (0, _), (1, _)]) dX11_cards_41 rfl rfl (Nat.le_of_ble_eq_true rfl) rfl ?_
        refine r_goto (tgt := 27) dX11_cards_44 (by decide) ?_
        rw [nI_1]
        exact r_keep [3, 2, 0, 1] rfl (ih hh)
    refine r_aload_n dX11_cards_0 rfl ?_
    refine r_iload_n dX11_cards_1 rfl ?_
    refine r_cVr (As := [_]) (c_X11_isDay α _ _ _ h.1 h.2.1) lk_11_124 rfl rfl (by decide) (by decide) rfl rfl (Nat.le_of_ble_eq_true rfl) dX11_cards_2 ?_
    refine r_if_ne 15 dX11_cards_5 (by decide) (fun h5 => ?_) (fun h5 => absurd h5 (fd_bn.mpr hok))
    refine r_aload_n dX11_cards_15 rfl ?_
    refine r_aload_n dX11_cards_16 rfl ?_
    refine r_getR rfl rfl fl_11_25 dX11_cards_17 ?_
    refine r_cVq (As := [_]) (c_lives V α _ _ _ rfl (Or.inl rfl) h hrow hp) lk_11_170 rfl rfl (by decide) (by decide) rfl rfl (Nat.le_of_ble_eq_true rfl) dX11_cards_20 (fun I20 L20 q20 => ?_)
    obtain ⟨e20, s20, t20, w20⟩ := q20
    refine r_iconst (v := 0) dX11_cards_23 rfl ?_
    refine r_istore_n (lv' := [(2, _), (0, _), (1, _)]) dX11_cards_24 (Nat.le_of_ble_eq_true rfl) rfl ?_
    refine r_iconst (v := 0) dX11_cards_25 rfl ?_
    refine r_istore_n (lv' := [(3, _), (2, _), (0, _), (1, _)]) dX11_cards_26 (Nat.le_of_ble_eq_true rfl) rfl ?_
    exact r_keep [3, 2, 0, 1] rfl (loop _ s20 w20 _ e20 0 (by omega))
  · refine r_aload_n dX11_cards_0 rfl ?_
    refine r_iload_n dX11_cards_1 rfl ?_
    refine r_cVr (As := [_]) (c_X11_isDay α _ _ _ h.1 h.2.1) lk_11_124 rfl rfl (by decide) (by decide) rfl rfl (Nat.le_of_ble_eq_true rfl) dX11_cards_2 ?_
    refine r_if_ne 15 dX11_cards_5 (by decide) (fun h5 => absurd h5 (not_not_intro (fd_b0.mpr hok))) (fun h5 => ?_)
    refine r_aload_n dX11_cards_8 rfl ?_
    refine r_bipush (v := (-2)) dX11_cards_9 rfl ?_
    refine r_cVr (As := [_]) (c_X11_bad α _ _ _) lk_11_120 rfl rfl (by decide) (by decide) rfl rfl (Nat.le_of_ble_eq_true rfl) dX11_cards_11 ?_
    refine r_iret rfl dX11_cards_14 ?_
    exact ⟨_, rfl, qsP.no hok⟩
