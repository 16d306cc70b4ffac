/-! the model: what there is -/
def dyN (V : pV) (n : Nat) : Nat := cnN (fun k => !(V 5 k = -1)) n
def ctV (V : pV) (n nn np nt rk : Nat) (by' : Int32) (k : Nat) : Int32 := if k = 0 then nI n else if k = 1 then nI nn else if k = 2 then nI np else if k = 3 then nI (dyN V n) else if k = 4 then nI nt else if k = 5 then by' else nI rk
theorem c_counts (V : pV) (α : Nat → Nat) (I : fdI) (L : fdL) (k : Nat) (hk : k < 7) {n nn np nt rk : Nat} (h : mOk V I n nn np nt) (hrow : ∀ k, k < n → I 6 k = nI (prm n rk k)) (hrk : rk < fac n) : Con fd_SM α yX11_counts mX11_counts [.ref (α 0), .int (nI k)] I L (fd_is (some (.int (ctV V n nn np nt rk (I 0 29) k))) I L) := by
  refine Con.of (by decide) rfl (Nat.le_of_ble_eq_true rfl) ?_
  have hn7 := h.2.1
  have ed : diN I n = dyN V n := cnN_congr fun k hk => by
    have : I 12 k = V 5 k := (h.2.2.2.2.2.2.2.2.1.1 k hk).2.2.2.2
    rw [this]
  rcases (show k = 0 ∨ k = 1 ∨ k = 2 ∨ k = 3 ∨ k = 4 ∨ k = 5 ∨ k = 6 by omega) with rfl | rfl | rfl | rfl | rfl | rfl | rfl
  · refine r_iload_n dX11_counts_0 rfl ?_
    refine r_if_ne 11 dX11_counts_1 (by decide) (fun h1 => absurd h1 (by decide)) (fun h1 => ?_)
    refine r_aload_n dX11_counts_4 rfl ?_
    refine r_getV rfl rfl fl_11_93 dX11_counts_5 h.1 ?_
    refine r_goto (tgt := 79) dX11_counts_8 (by decide) ?_
    refine r_iret rfl dX11_counts_79 ?_
    exact fd_isI rfl rfl rfl
  · refine r_iload_n dX11_counts_0 rfl ?_
    refine r_if_ne 11 dX11_counts_1 (by decide) (fun h1 => ?_) (fun h1 => absurd h1 (by decide))
    refine r_iload_n dX11_counts_11 rfl ?_
    refine r_iconst (v := 1) dX11_counts_12 rfl ?_
    refine r_icmp_ne 23 dX11_counts_13 (by decide) (fun h13 => absurd h13 (by decide)) (fun h13 => ?_)
    refine r_aload_n dX11_counts_16 rfl ?_
    refine r_getV rfl rfl fl_11_103 dX11_counts_17 h.2.2.1 ?_
    refine r_goto (tgt := 79) dX11_counts_20 (by decide) ?_
    refine r_iret rfl dX11_counts_79 ?_
    exact fd_isI rfl rfl rfl
  · refine r_iload_n dX11_counts_0 rfl ?_
    refine r_if_ne 11 dX11_counts_1 (by decide) (fun h1 => ?_) (fun h1 => absurd h1 (by decide))
    refine r_iload_n dX11_counts_11 rfl ?_
    refine r_iconst (v := 1) dX11_counts_12 rfl ?_
    refine r_icmp_ne 23 dX11_counts_13 (by decide) (fun h13 => ?_) (fun h13 => absurd h13 (by decide))
    refine r_iload_n dX11_counts_23 rfl ?_
    refine r_iconst (v := 2) dX11_counts_24 rfl ?_
    refine r_icmp_ne 35 dX11_counts_25 (by decide) (fun h25 => absurd h25 (by decide)) (fun h25 => ?_)
    refine r_aload_n dX11_counts_28 rfl ?_
    refine r_getV rfl rfl fl_11_106 dX11_counts_29 h.2.2.2.2.1 ?_
    refine r_goto (tgt := 79) dX11_counts_32 (by decide) ?_
    refine r_iret rfl dX11_counts_79 ?_
    exact fd_isI rfl rfl rfl
  · refine r_iload_n dX11_counts_0 rfl ?_
    refine r_if_ne 11 dX11_counts_1 (by decide) (fun h1 => ?_) (fun h1 => absurd h1 (by decide))
    refine r_iload_n dX11_counts_11 rfl ?_
    refine r_iconst (v := 1) dX11_counts_12 rfl ?_
    refine r_icmp_ne 23 dX11_counts_13 (by decide) (fun h13 => ?_) (fun h13 => absurd h13 (by decide))
    refine r_iload_n dX11_counts_23 rfl ?_
    refine r_iconst (v := 2) dX11_counts_24 rfl ?_
    refine r_icmp_ne 35 dX11_counts_25 (by decide) (fun h25 => ?_) (fun h25 => absurd h25 (by decide))
    refine r_iload_n dX11_counts_35 rfl ?_
    refine r_iconst (v := 3) dX11_counts_36 rfl ?_
    refine r_icmp_ne 47 dX11_counts_37 (by decide) (fun h37 => absurd h37 (by decide)) (fun h37 => ?_)
    refine r_aload_n dX11_counts_40 rfl ?_
    refine r_cVr (As := []) (c_X11_diaries α _ _ h.1 hn7) lk_11_144 rfl rfl (by decide) (by decide) rfl rfl (Nat.le_of_ble_eq_true rfl) dX11_counts_41 ?_
    rw [ed]
    refine r_goto (tgt := 79) dX11_counts_44 (by decide) ?_
    refine r_iret rfl dX11_counts_79 ?_
    exact fd_isI rfl rfl rfl
  · refine r_iload_n dX11_counts_0 rfl ?_
    refine r_if_ne 11 dX11_counts_1 (by decide) (fun h1 => ?_) (fun h1 => absurd h1 (by decide))
    refine r_iload_n dX11_counts_11 rfl ?_
    refine r_iconst (v := 1) dX11_counts_12 rfl ?_
    refine r_icmp_ne 23 dX11_counts_13 (by decide) (fun h13 => ?_) (fun h13 => absurd h13 (by decide))
    refine r_iload_n dX11_counts_23 rfl ?_
    refine r_iconst (v := 2) dX11_counts_24 rfl ?_
    refine r_icmp_ne 35 dX11_counts_25 (by decide) (fun h25 => ?_) (fun h25 => absurd h25 (by decide))
    refine r_iload_n dX11_counts_35 rfl ?_
    refine r_iconst (v := 3) dX11_counts_36 rfl ?_
    refine r_icmp_ne 47 dX11_counts_37 (by decide) (fun h37 => ?_) (fun h37 => absurd h37 (by decide))
    refine r_iload_n dX11_counts_47 rfl ?_
    refine r_iconst (v := 4) dX11_counts_48 rfl ?_
    refine r_icmp_ne 59 dX11_counts_49 (by decide) (fun h49 => absurd h49 (by decide)) (fun h49 => ?_)
    refine r_aload_n dX11_counts_52 rfl ?_
    refine r_getV rfl rfl fl_11_109 dX11_counts_53 h.2.2.2.2.2.2.1 ?_
    refine r_goto (tgt := 79) dX11_counts_56 (by decide) ?_
    refine r_iret rfl dX11_counts_79 ?_
    exact fd_isI rfl rfl rfl
  · refine r_iload_n dX11_counts_0 rfl ?_
    refine r_if_ne 11 dX11_counts_1 (by decide) (fun h1 => ?_) (fun h1 => absurd h1 (by decide))
    refine r_iload_n dX11_counts_11 rfl ?_
    refine r_iconst (v := 1) dX11_counts_12 rfl ?_
    refine r_icmp_ne 23 dX11_counts_13 (by decide) (fun h13 => ?_) (fun h13 => absurd h13 (by decide))
    refine r_iload_n dX11_counts_23 rfl ?_
    refine r_iconst (v := 2) dX11_counts_24 rfl ?_
    refine r_icmp_ne 35 dX11_counts_25 (by decide) (fun h25 => ?_) (fun h25 => absurd h25 (by decide))
    refine r_iload_n dX11_counts_35 rfl ?_
    refine r_iconst (v := 3) dX11_counts_36 rfl ?_
    refine r_icmp_ne 47 dX11_counts_37 (by decide) (fun h37 => ?_) (fun h37 => absurd h37 (by decide))
    refine r_iload_n dX11_counts_47 rfl ?_
    refine r_iconst (v := 4) dX11_counts_48 rfl ?_
    refine r_icmp_ne 59 dX11_counts_49 (by decide) (fun h49 => ?_) (fun h49 => absurd h49 (by decide))
    refine r_iload_n dX11_counts_59 rfl ?_
    refine r_iconst (v := 5) dX11_counts_60 rfl ?_
    refine r_icmp_ne 71 dX11_counts_61 (by decide) (fun h61 => absurd h61 (by decide)) (fun h61 => ?_)
    refine r_aload_n dX11_counts_64 rfl ?_
    refine r_getI rfl rfl fl_11_218 dX11_counts_65 ?_
    refine r_goto (tgt := 79) dX11_counts_68 (by decide) ?_
    refine r_iret rfl dX11_counts_79 ?_
    exact fd_isI rfl rfl rfl
  · refine r_iload_n dX11_counts_0 rfl ?_
    refine r_if_ne 11 dX11_counts_1 (by decide) (fun h1 => ?_) (fun h1 => absurd h1 (by decide))
    refine r_iload_n dX11_counts_11 rfl ?_
    refine r_iconst (v := 1) dX11_counts_12 rfl ?_
    refine r_icmp_ne 23 dX11_counts_13 (by decide) (fun h13 => ?_) (fun h13 => absurd h13 (by decide))
    refine r_iload_n dX11_counts_23 rfl ?_
    refine r_iconst (v := 2) dX11_counts_24 rfl ?_
    refine r_icmp_ne 35 dX11_counts_25 (by decide) (fun h25 => ?_) (fun h25 => absurd h25 (by decide))
    refine r_iload_n dX11_counts_35 rfl ?_
    refine r_iconst (v := 3) dX11_counts_36 rfl ?_
    refine r_icmp_ne 47 dX11_counts_37 (by decide) (fun h37 => ?_) (fun h37 => absurd h37 (by decide))
    refine r_iload_n dX11_counts_47 rfl ?_
    refine r_iconst (v := 4) dX11_counts_48 rfl ?_
    refine r_icmp_ne 59 dX11_counts_49 (by decide) (fun h49 => ?_) (fun h49 => absurd h49 (by decide))
    refine r_iload_n dX11_counts_59 rfl ?_
    refine r_iconst (v := 5) dX11_counts_60 rfl ?_
    refine r_icmp_ne 71 dX11_counts_61 (by decide) (fun h61 => ?_) (fun h61 => absurd h61 (by decide))
    refine r_aload_n dX11_counts_71 rfl ?_
    refine r_aload_n dX11_counts_72 rfl ?_
    refine r_getR rfl rfl fl_11_25 dX11_counts_73 ?_
    refine r_cVr (As := [_]) (c_X11_rankOf α _ _ _ rfl h.1 hn7 hrow (prm_P hn7 hrk)) lk_11_153 rfl rfl (by decide) (by decide) rfl rfl (Nat.le_of_ble_eq_true rfl) dX11_counts_76 ?_
    rw [prm_rank hn7 hrk]
    refine r_iret rfl dX11_counts_79 ?_
    exact fd_isI rfl rfl rfl
theorem c_X11_count (V : pV) (α : Nat → Nat) (I : fdI) (L : fdL) (w : Int32) {n nn np nt rk : Nat} (h : mOk V I n nn np nt) (hrow : ∀ k, k < n → I 6 k = nI (prm n rk k)) (hrk : rk < fac n) : Con fd_SM α yX11_count mX11_count [.ref (α 0), .int w] I L (fd_is (some (.int (if dayP w 7 then ctV V n nn np nt rk (I 0 29) w.toNatClampNeg else -2))) (if dayP w 7 then I else mBad I) L) := by
  refine Con.of (by decide) rfl (Nat.le_of_ble_eq_true rfl) ?_
  by_cases hok : dayP w 7
  · rw [if_pos hok, if_pos hok]
    obtain ⟨j, hj, rfl⟩ := dayP_nI hok
    rw [nI_clamp (by omega)]
    refine r_iload_n dX11_count_0 rfl ?_
    refine r_i2l dX11_count_1 rfl ?_
    refine r_lconst (v := 0) dX11_count_2 rfl ?_
    refine r_ldc2 (v := (6 : Int64)) (fd_in 1377 (by decide +kernel) (by decide +kernel)) dX11_count_3 ?_
    refine r_cSr (As := [_, _, _]) (c_in6 α _ _ _) lk_11_97 (by decide) (by decide) rfl rfl (Nat.le_of_ble_eq_true rfl) dX11_count_6 ?_
    refine r_if_eq 20 dX11_count_9 (by decide) (fun h9 => absurd h9 (fd_bn.mpr hok)) (fun h9 => ?_)
    refine r_aload_n dX11_count_12 rfl ?_
    refine r_iload_n dX11_count_13 rfl ?_
    refine r_cVr (As := [_]) (c_counts V α _ _ j hj h hrow hrk) lk_11_314 rfl rfl (by decide) (by decide) rfl rfl (Nat.le_of_ble_eq_true rfl) dX11_count_14 ?_
    refine r_goto (tgt := 26) dX11_count_17 (by decide) ?_
    refine r_iret rfl dX11_count_26 ?_
    exact fd_isI rfl rfl rfl
  · rw [if_neg hok, if_neg hok]
    refine r_iload_n dX11_count_0 rfl ?_
    refine r_i2l dX11_count_1 rfl ?_
    refine r_lconst (v := 0) dX11_count_2 rfl ?_
    refine r_ldc2 (v := (6 : Int64)) (fd_in 1377 (by decide +kernel) (by decide +kernel)) dX11_count_3 ?_
    refine r_cSr (As := [_, _, _]) (c_in6 α _ _ _) lk_11_97 (by decide) (by decide) rfl rfl (Nat.le_of_ble_eq_true rfl) dX11_count_6 ?_
    refine r_if_eq 20 dX11_count_9 (by decide) (fun h9 => ?_) (fun h9 => absurd h9 (not_not_intro (fd_b0.mpr hok)))
    refine r_aload_n dX11_count_20 rfl ?_
    refine r_bipush (v := (-2)) dX11_count_21 rfl ?_
    refine r_cVr (As := [_]) (c_X11_bad α _ _ _) lk_11_120 rfl rfl (by decide) (by decide) rfl rfl (Nat.le_of_ble_eq_true rfl) dX11_count_23 ?_
    refine r_iret rfl dX11_count_26 ?_
    exact fd_isI rfl rfl rfl
def hsh (h v : Int64) : Int64 := 31 * h + v
theorem c_X11_hashes (α : Nat → Nat) (I : fdI) (L : fdL) (v : Int64) : Con fd_SM α yX11_hashes mX11_hashes [.ref (α 0), .long v] I L (fd_is none I (fd_up L 0 38 (hsh (L 0 38) v))) := by
  refine Con.of (by decide) rfl (Nat.le_of_ble_eq_true rfl) ?_
  refine r_aload_n dX11_hashes_0 rfl ?_
  refine r_ldc2 (v := (31 : Int64)) (fd_in 1391 (by decide +kernel) (by decide +kernel)) dX11_hashes_1 ?_
  refine r_aload_n dX11_hashes_4 rfl ?_
  refine r_getJ rfl rfl fl_11_319 dX11_hashes_5 ?_
  refine r_lmul dX11_hashes_8 ?_
  refine r_lload_n dX11_hashes_9 rfl ?_
  refine r_ladd dX11_hashes_10 ?_
  refine r_putJ rfl rfl fl_11_319 fw_11_38 dX11_hashes_11 ?_
  refine r_vret rfl dX11_hashes_14 ?_
  exact fd_isI rfl rfl rfl
def dgC (V : pV) (n nn np nt rk : Nat) (b : Int32) (h : Int64) : Nat → Int64
  | 0 => h
  | k + 1 => hsh (dgC V n nn np nt rk b h k) (ctV V n nn np nt rk b k).toInt64
def dgD (V : pV) (h : Int64) : Nat → Int64
  | 0 => h
  | d + 1 => hsh (hsh (hsh (hsh (dgD V h d) (V 1 d).toInt64) (V 2 d).toInt64) (V 3 d).toInt64) (V 4 d).toInt64
/-- two rows of the life, one row of it -/
def dg2 (V : pV) (a b : Nat) (h : Int64) : Nat → Int64
  | 0 => h
  | d + 1 => hsh (hsh (dg2 V a b h d) (V a d).toInt64) (V b d).toInt64
def dg1 (V : pV) (a : Nat) (h : Int64) : Nat → Int64
  | 0 => h
  | d + 1 => hsh (dg1 V a h d) (V a d).toInt64
def dgV (V : pV) (n nn np nt rk : Nat) (b ot ly : Int32) (x y : Int64) : Int64 := hsh (hsh (hsh (hsh (dg1 V 10 (dg1 V 5 (dg2 V 8 9 (dg2 V 6 7 (dgD V (dgC V n nn np nt rk b 827 7) n) nn) np) n) nt) ot.toInt64) ly.toInt64) x) y
/-- only the hash has changed -/
def hsL (L L' : fdL) (h : Int64) : Prop := (∀ a, a ≠ 0 → L' a = L a) ∧ (∀ j, j ≠ 38 → L' 0 j = L 0 j) ∧ L' 0 38 = h
theorem hsL.up {L L1 : fdL} {h v : Int64} (q : hsL L L1 h) : hsL L (fd_up L1 0 38 (hsh (L1 0 38) v)) (hsh h v) := ⟨fun a ha => by rw [fd_up_cell ha]; exact q.1 a ha, fun j hj => by rw [fd_up_pl hj]; exact q.2.1 j hj, by rw [fd_up_same, q.2.2]⟩
theorem c_X11_digest (V : pV) (α : Nat → Nat) (I : fdI) (L : fdL) {n nn np nt rk : Nat} (h : mOk V I n nn np nt) (hrow : ∀ k, k < n → I 6 k = nI (prm n rk k)) (hrk : rk < fac n) : Con fd_SM α yX11_digest mX11_digest [.ref (α 0)] I L (fd_ip (fun v I' L' => v = .long (dgV V n nn np nt rk (I 0 29) (I 0 16) (I 0 17) (L 0 24) (L 0 25)) ∧ I' = I ∧ (∀ a, a ≠ 0 → L' a = L a) ∧ ∀ j, j ≠ 38 → L' 0 j = L 0 j)) := by
  refine Con.of (by decide) rfl (Nat.le_of_ble_eq_true rfl) ?_
  have hn7 := h.2.1
  have hnn := h.2.2.2.1
  have hnp := h.2.2.2.2.2.1
  have hnt := h.2.2.2.2.2.2.2.1
  have g := h.2.2.2.2.2.2.2.2.1
  generalize hR : dgV V n nn np nt rk (I 0 29) (I 0 16) (I 0 17) (L 0 24) (L 0 25) = R
  unfold dgV at hR
  have fin : ∀ L1, hsL L L1 (dg1 V 10 (dg1 V 5 (dg2 V 8 9 (dg2 V 6 7 (dgD V (dgC V n nn np nt rk (I 0 29) 827 7) n) nn) np) n) nt) → Rn fd_SM α mX11_digest 221 [(0, .ref (α 0))] [] I L1 (fd_ip (fun v I' L' => v = .long R ∧ I' = I ∧ (∀ a, a ≠ 0 → L' a = L a) ∧ ∀ j, j ≠ 38 → L' 0 j = L 0 j)) := by
    intro L1 q
    have q5 := ((((q.up (v := (I 0 16).toInt64)).up (v := (I 0 17).toInt64)).up (v := L1 0 24)).up (v := L1 0 25))
    have eA : L1 0 24 = L 0 24 := q.2.1 24 (by decide)
    have eB : L1 0 25 = L 0 25 := q.2.1 25 (by decide)
    refine r_aload_n dX11_digest_221 rfl ?_
    refine r_aload_n dX11_digest_222 rfl ?_
    refine r_getI rfl rfl fl_11_112 dX11_digest_223 ?_
    refine r_i2l dX11_digest_226 rfl ?_
    refine r_cVn (As := [_]) (c_X11_hashes α _ _ _) lk_11_324 rfl rfl (by decide) (by decide) rfl rfl (Nat.le_of_ble_eq_true rfl) dX11_digest_227 ?_
    refine r_aload_n dX11_digest_230 rfl ?_
    refine r_aload_n dX11_digest_231 rfl ?_
    refine r_getI rfl rfl fl_11_115 dX11_digest_232 ?_
    refine r_i2l dX11_digest_235 rfl ?_
    refine r_cVn (As := [_]) (c_X11_hashes α _ _ _) lk_11_324 rfl rfl (by decide) (by decide) rfl rfl (Nat.le_of_ble_eq_true rfl) dX11_digest_236 ?_
    refine r_aload_n dX11_digest_239 rfl ?_
    refine r_aload_n dX11_digest_240 rfl ?_
    refine r_getJ rfl rfl fl_11_86 dX11_digest_241 ?_
    refine r_cVn (As := [_]) (c_X11_hashes α _ _ _) lk_11_324 rfl rfl (by decide) (by decide) rfl rfl (Nat.le_of_ble_eq_true rfl) dX11_digest_244 ?_
    refine r_aload_n dX11_digest_247 rfl ?_
    refine r_aload_n dX11_digest_248 rfl ?_
    refine r_getJ rfl rfl fl_11_90 dX11_digest_249 ?_
    refine r_cVn (As := [_]) (c_X11_hashes α _ _ _) lk_11_324 rfl rfl (by decide) (by decide) rfl rfl (Nat.le_of_ble_eq_true rfl) dX11_digest_252 ?_
    refine r_aload_n dX11_digest_255 rfl ?_
    refine r_getJ rfl rfl fl_11_319 dX11_digest_256 ?_
    refine r_lret rfl dX11_digest_259 ?_
    exact ⟨_, rfl, congrArg Value.long (Eq.trans q5.2.2 (by rw [eA, eB]; exact hR)), rfl, q5.1, q5.2.1⟩
  have l6 : ∀ k, k ≤ nt → ∀ L1, hsL L L1 (dg1 V 10 (dg1 V 5 (dg2 V 8 9 (dg2 V 6 7 (dgD V (dgC V n nn np nt rk (I 0 29) 827 7) n) nn) np) n) k) → Rn fd_SM α mX11_digest 196 [(1, .int (nI k)), (0, .ref (α 0))] [] I L1 (fd_ip (fun v I' L' => v = .long R ∧ I' = I ∧ (∀ a, a ≠ 0 → L' a = L a) ∧ ∀ j, j ≠ 38 → L' 0 j = L 0 j)) := by
    refine fd_down (fun k hk ih => ?_)
    intro L1 q
    by_cases hx : k = nt
    · subst hx
      refine r_iload_n dX11_digest_196 rfl ?_
      refine r_aload_n dX11_digest_197 rfl ?_
      refine r_getV rfl rfl fl_11_109 dX11_digest_198 h.2.2.2.2.2.2.1 ?_
      refine r_icmp_ge 221 dX11_digest_201 (by decide) (fun h201 => ?_) (fun h201 => absurd h201 (not_not_intro (Int32.le_refl _)))
      exact r_keep [0] rfl (fin L1 q)
    · refine r_iload_n dX11_digest_196 rfl ?_
      refine r_aload_n dX11_digest_197 rfl ?_
      refine r_getV rfl rfl fl_11_109 dX11_digest_198 h.2.2.2.2.2.2.1 ?_
      refine r_icmp_ge 221 dX11_digest_201 (by decide) (fun h201 => absurd h201 (fun q => absurd ((nI_leI (by omega) (by omega)).mp q) (by omega))) (fun h201 => ?_)
      refine r_aload_n dX11_digest_204 rfl ?_
      refine r_aload_n dX11_digest_205 rfl ?_
      refine r_getR rfl rfl fl_11_40 dX11_digest_206 ?_
      refine r_iload_n dX11_digest_209 rfl ?_
      refine r_ialdN rfl dX11_digest_210 (by omega) (by omega) (g.2.2.2 k (by omega)) ?_
      refine r_i2l dX11_digest_211 rfl ?_
      refine r_cVn (As := [_]) (c_X11_hashes α _ _ _) lk_11_324 rfl rfl (by decide) (by decide) rfl rfl (Nat.le_of_ble_eq_true rfl) dX11_digest_212 ?_
      refine r_iinc (v := _ + 1) (lv' := [(1, _), (0, _)]) dX11_digest_215 rfl rfl (Nat.le_of_ble_eq_true rfl) rfl ?_
      refine r_goto (tgt := 196) dX11_digest_218 (by decide) ?_
      rw [nI_1]
      exact r_keep [1, 0] rfl (ih (by omega) _ q.up)
  have l5 : ∀ k, k ≤ n → ∀ L1, hsL L L1 (dg1 V 5 (dg2 V 8 9 (dg2 V 6 7 (dgD V (dgC V n nn np nt rk (I 0 29) 827 7) n) nn) np) k) → Rn fd_SM α mX11_digest 169 [(1, .int (nI k)), (0, .ref (α 0))] [] I L1 (fd_ip (fun v I' L' => v = .long R ∧ I' = I ∧ (∀ a, a ≠ 0 → L' a = L a) ∧ ∀ j, j ≠ 38 → L' 0 j = L 0 j)) := by
    refine fd_down (fun k hk ih => ?_)
    intro L1 q
    by_cases hx : k = n
    · subst hx
      refine r_iload_n dX11_digest_169 rfl ?_
      refine r_aload_n dX11_digest_170 rfl ?_
      refine r_getV rfl rfl fl_11_93 dX11_digest_171 h.1 ?_
      refine r_icmp_ge 194 dX11_digest_174 (by decide) (fun h174 => ?_) (fun h174 => absurd h174 (not_not_intro (Int32.le_refl _)))
      refine r_iconst (v := 0) dX11_digest_194 rfl ?_
      refine r_istore_n (lv' := [(1, _), (0, _)]) dX11_digest_195 (Nat.le_of_ble_eq_true rfl) rfl ?_
      exact r_keep [1, 0] rfl (l6 0 (by omega) L1 q)
    · refine r_iload_n dX11_digest_169 rfl ?_
      refine r_aload_n dX11_digest_170 rfl ?_
      refine r_getV rfl rfl fl_11_93 dX11_digest_171 h.1 ?_
      refine r_icmp_ge 194 dX11_digest_174 (by decide) (fun h174 => absurd h174 (fun q => absurd ((nI_leI (by omega) (by omega)).mp q) (by omega))) (fun h174 => ?_)
      refine r_aload_n dX11_digest_177 rfl ?_
      refine r_aload_n dX11_digest_178 rfl ?_
      refine r_getR rfl rfl fl_11_43 dX11_digest_179 ?_
      refine r_iload_n dX11_digest_182 rfl ?_
      refine r_ialdN rfl dX11_digest_183 (by omega) (by omega) (g.1 k (by omega)).2.2.2.2 ?_
      refine r_i2l dX11_digest_184 rfl ?_
      refine r_cVn (As := [_]) (c_X11_hashes α _ _ _) lk_11_324 rfl rfl (by decide) (by decide) rfl rfl (Nat.le_of_ble_eq_true rfl) dX11_digest_185 ?_
      refine r_iinc (v := _ + 1) (lv' := [(1, _), (0, _)]) dX11_digest_188 rfl rfl (Nat.le_of_ble_eq_true rfl) rfl ?_
      refine r_goto (tgt := 169) dX11_digest_191 (by decide) ?_
      rw [nI_1]
      exact r_keep [1, 0] rfl (ih (by omega) _ q.up)
  have l4 : ∀ k, k ≤ np → ∀ L1, hsL L L1 (dg2 V 8 9 (dg2 V 6 7 (dgD V (dgC V n nn np nt rk (I 0 29) 827 7) n) nn) k) → Rn fd_SM α mX11_digest 131 [(1, .int (nI k)), (0, .ref (α 0))] [] I L1 (fd_ip (fun v I' L' => v = .long R ∧ I' = I ∧ (∀ a, a ≠ 0 → L' a = L a) ∧ ∀ j, j ≠ 38 → L' 0 j = L 0 j)) := by
    refine fd_down (fun k hk ih => ?_)
    intro L1 q
    by_cases hx : k = np
    · subst hx
      refine r_iload_n dX11_digest_131 rfl ?_
      refine r_aload_n dX11_digest_132 rfl ?_
      refine r_getV rfl rfl fl_11_106 dX11_digest_133 h.2.2.2.2.1 ?_
      refine r_icmp_ge 167 dX11_digest_136 (by decide) (fun h136 => ?_) (fun h136 => absurd h136 (not_not_intro (Int32.le_refl _)))
      refine r_iconst (v := 0) dX11_digest_167 rfl ?_
      refine r_istore_n (lv' := [(1, _), (0, _)]) dX11_digest_168 (Nat.le_of_ble_eq_true rfl) rfl ?_
      exact r_keep [1, 0] rfl (l5 0 (by omega) L1 q)
    · refine r_iload_n dX11_digest_131 rfl ?_
      refine r_aload_n dX11_digest_132 rfl ?_
      refine r_getV rfl rfl fl_11_106 dX11_digest_133 h.2.2.2.2.1 ?_
      refine r_icmp_ge 167 dX11_digest_136 (by decide) (fun h136 => absurd h136 (fun q => absurd ((nI_leI (by omega) (by omega)).mp q) (by omega))) (fun h136 => ?_)
      refine r_aload_n dX11_digest_139 rfl ?_
      refine r_aload_n dX11_digest_140 rfl ?_
      refine r_getR rfl rfl fl_11_34 dX11_digest_141 ?_
      refine r_iload_n dX11_digest_144 rfl ?_
      refine r_ialdN rfl dX11_digest_145 (by omega) (by omega) (g.2.2.1 k (by omega)).1 ?_
      refine r_i2l dX11_digest_146 rfl ?_
      refine r_cVn (As := [_]) (c_X11_hashes α _ _ _) lk_11_324 rfl rfl (by decide) (by decide) rfl rfl (Nat.le_of_ble_eq_true rfl) dX11_digest_147 ?_
      refine r_aload_n dX11_digest_150 rfl ?_
      refine r_aload_n dX11_digest_151 rfl ?_
      refine r_getR rfl rfl fl_11_37 dX11_digest_152 ?_
      refine r_iload_n dX11_digest_155 rfl ?_
      refine r_ialdN rfl dX11_digest_156 (by omega) (by omega) (g.2.2.1 k (by omega)).2 ?_
      refine r_i2l dX11_digest_157 rfl ?_
      refine r_cVn (As := [_]) (c_X11_hashes α _ _ _) lk_11_324 rfl rfl (by decide) (by decide) rfl rfl (Nat.le_of_ble_eq_true rfl) dX11_digest_158 ?_
      refine r_iinc (v := _ + 1) (lv' := [(1, _), (0, _)]) dX11_digest_161 rfl rfl (Nat.le_of_ble_eq_true rfl) rfl ?_
      refine r_goto (tgt := 131) dX11_digest_164 (by decide) ?_
      rw [nI_1]
      exact r_keep [1, 0] rfl (ih (by omega) _ q.up.up)
  have l3 : ∀ k, k ≤ nn → ∀ L1, hsL L L1 (dg2 V 6 7 (dgD V (dgC V n nn np nt rk (I 0 29) 827 7) n) k) → Rn fd_SM α mX11_digest 93 [(1, .int (nI k)), (0, .ref (α 0))] [] I L1 (fd_ip (fun v I' L' => v = .long R ∧ I' = I ∧ (∀ a, a ≠ 0 → L' a = L a) ∧ ∀ j, j ≠ 38 → L' 0 j = L 0 j)) := by
    refine fd_down (fun k hk ih => ?_)
    intro L1 q
    by_cases hx : k = nn
    · subst hx
      refine r_iload_n dX11_digest_93 rfl ?_
      refine r_aload_n dX11_digest_94 rfl ?_
      refine r_getV rfl rfl fl_11_103 dX11_digest_95 h.2.2.1 ?_
      refine r_icmp_ge 129 dX11_digest_98 (by decide) (fun h98 => ?_) (fun h98 => absurd h98 (not_not_intro (Int32.le_refl _)))
      refine r_iconst (v := 0) dX11_digest_129 rfl ?_
      refine r_istore_n (lv' := [(1, _), (0, _)]) dX11_digest_130 (Nat.le_of_ble_eq_true rfl) rfl ?_
      exact r_keep [1, 0] rfl (l4 0 (by omega) L1 q)
    · refine r_iload_n dX11_digest_93 rfl ?_
      refine r_aload_n dX11_digest_94 rfl ?_
      refine r_getV rfl rfl fl_11_103 dX11_digest_95 h.2.2.1 ?_
      refine r_icmp_ge 129 dX11_digest_98 (by decide) (fun h98 => absurd h98 (fun q => absurd ((nI_leI (by omega) (by omega)).mp q) (by omega))) (fun h98 => ?_)
      refine r_aload_n dX11_digest_101 rfl ?_
      refine r_aload_n dX11_digest_102 rfl ?_
      refine r_getR rfl rfl fl_11_28 dX11_digest_103 ?_
      refine r_iload_n dX11_digest_106 rfl ?_
      refine r_ialdN rfl dX11_digest_107 (by omega) (by omega) (g.2.1 k (by omega)).1 ?_
      refine r_i2l dX11_digest_108 rfl ?_
      refine r_cVn (As := [_]) (c_X11_hashes α _ _ _) lk_11_324 rfl rfl (by decide) (by decide) rfl rfl (Nat.le_of_ble_eq_true rfl) dX11_digest_109 ?_
      refine r_aload_n dX11_digest_112 rfl ?_
      refine r_aload_n dX11_digest_113 rfl ?_
      refine r_getR rfl rfl fl_11_31 dX11_digest_114 ?_
      refine r_iload_n dX11_digest_117 rfl ?_
      refine r_ialdN rfl dX11_digest_118 (by omega) (by omega) (g.2.1 k (by omega)).2 ?_
      refine r_i2l dX11_digest_119 rfl ?_
      refine r_cVn (As := [_]) (c_X11_hashes α _ _ _) lk_11_324 rfl rfl (by decide) (by decide) rfl rfl (Nat.le_of_ble_eq_true rfl) dX11_digest_120 ?_
      refine r_iinc (v := _ + 1) (lv' := [(1, _), (0, _)]) dX11_digest_123 rfl rfl (Nat.le_of_ble_eq_true rfl) rfl ?_
      refine r_goto (tgt := 93) dX11_digest_126 (by decide) ?_
      rw [nI_1]
      exact r_keep [1, 0] rfl (ih (by omega) _ q.up.up)
  have l2 : ∀ k, k ≤ n → ∀ L1, hsL L L1 (dgD V (dgC V n nn np nt rk (I 0 29) 827 7) k) → Rn fd_SM α mX11_digest 33 [(1, .int (nI k)), (0, .ref (α 0))] [] I L1 (fd_ip (fun v I' L' => v = .long R ∧ I' = I ∧ (∀ a, a ≠ 0 → L' a = L a) ∧ ∀ j, j ≠ 38 → L' 0 j = L 0 j)) := by
    refine fd_down (fun k hk ih => ?_)
    intro L1 q
    by_cases hx : k = n
    · subst hx
      refine r_iload_n dX11_digest_33 rfl ?_
      refine r_aload_n dX11_digest_34 rfl ?_
      refine r_getV rfl rfl fl_11_93 dX11_digest_35 h.1 ?_
      refine r_icmp_ge 91 dX11_digest_38 (by decide) (fun h38 => ?_) (fun h38 => absurd h38 (not_not_intro (Int32.le_refl _)))
      refine r_iconst (v := 0) dX11_digest_91 rfl ?_
      refine r_istore_n (lv' := [(1, _), (0, _)]) dX11_digest_92 (Nat.le_of_ble_eq_true rfl) rfl ?_
      exact r_keep [1, 0] rfl (l3 0 (by omega) L1 q)
    · refine r_iload_n dX11_digest_33 rfl ?_
      refine r_aload_n dX11_digest_34 rfl ?_
      refine r_getV rfl rfl fl_11_93 dX11_digest_35 h.1 ?_
      refine r_icmp_ge 91 dX11_digest_38 (by decide) (fun h38 => absurd h38 (fun q => absurd ((nI_leI (by omega) (by omega)).mp q) (by omega))) (fun h38 => ?_)
      refine r_aload_n dX11_digest_41 rfl ?_
      refine r_aload_n dX11_digest_42 rfl ?_
      refine r_getR rfl rfl fl_11_13 dX11_digest_43 ?_
      refine r_iload_n dX11_digest_46 rfl ?_
      refine r_ialdN rfl dX11_digest_47 (by omega) (by omega) (g.1 k (by omega)).1 ?_
      refine r_i2l dX11_digest_48 rfl ?_
      refine r_cVn (As := [_]) (c_X11_hashes α _ _ _) lk_11_324 rfl rfl (by decide) (by decide) rfl rfl (Nat.le_of_ble_eq_true rfl) dX11_digest_49 ?_
      refine r_aload_n dX11_digest_52 rfl ?_
      refine r_aload_n dX11_digest_53 rfl ?_
      refine r_getR rfl rfl fl_11_16 dX11_digest_54 ?_
      refine r_iload_n dX11_digest_57 rfl ?_
      refine r_ialdN rfl dX11_digest_58 (by omega) (by omega) (g.1 k (by omega)).2.1 ?_
      refine r_i2l dX11_digest_59 rfl ?_
      refine r_cVn (As := [_]) (c_X11_hashes α _ _ _) lk_11_324 rfl rfl (by decide) (by decide) rfl rfl (Nat.le_of_ble_eq_true rfl) dX11_digest_60 ?_
      refine r_aload_n dX11_digest_63 rfl ?_
      refine r_aload_n dX11_digest_64 rfl ?_
      refine r_getR rfl rfl fl_11_19 dX11_digest_65 ?_
      refine r_iload_n dX11_digest_68 rfl ?_
      refine r_ialdN rfl dX11_digest_69 (by omega) (by omega) (g.1 k (by omega)).2.2.1 ?_
      refine r_i2l dX11_digest_70 rfl ?_
      refine r_cVn (As := [_]) (c_X11_hashes α _ _ _) lk_11_324 rfl rfl (by decide) (by decide) rfl rfl (Nat.le_of_ble_eq_true rfl) dX11_digest_71 ?_
      refine r_aload_n dX11_digest_74 rfl ?_
      refine r_aload_n dX11_digest_75 rfl ?_
      refine r_getR rfl rfl fl_11_22 dX11_digest_76 ?_
      refine r_iload_n dX11_digest_79 rfl ?_
      refine r_ialdN rfl dX11_digest_80 (by omega) (by omega) (g.1 k (by omega)).2.2.2.1 ?_
      refine r_i2l dX11_digest_81 rfl ?_
      refine r_cVn (As := [_]) (c_X11_hashes α _ _ _) lk_11_324 rfl rfl (by decide) (by decide) rfl rfl (Nat.le_of_ble_eq_true rfl) dX11_digest_82 ?_
      refine r_iinc (v := _ + 1) (lv' := [(1, _), (0, _)]) dX11_digest_85 rfl rfl (Nat.le_of_ble_eq_true rfl) rfl ?_
      refine r_goto (tgt := 33) dX11_digest_88 (by decide) ?_
      rw [nI_1]
      exact r_keep [1, 0] rfl (ih (by omega) _ q.up.up.up.up)
  have l1 : ∀ k, k ≤ 7 → ∀ L1, hsL L L1 (dgC V n nn np nt rk (I 0 29) 827 k) → Rn fd_SM α mX11_digest 9 [(1, .int (nI k)), (0, .ref (α 0))] [] I L1 (fd_ip (fun v I' L' => v = .long R ∧ I' = I ∧ (∀ a, a ≠ 0 → L' a = L a) ∧ ∀ j, j ≠ 38 → L' 0 j = L 0 j)) := by
    refine fd_down (fun k hk ih => ?_)
    intro L1 q
    by_cases hx : k = 7
    · subst hx
      refine r_iload_n dX11_digest_9 rfl ?_
      refine r_bipush (v := 7) dX11_digest_10 rfl ?_
      refine r_icmp_ge 31 dX11_digest_12 (by decide) (fun h12 => ?_) (fun h12 => absurd h12 (by decide))
      refine r_iconst (v := 0) dX11_digest_31 rfl ?_
      refine r_istore_n (lv' := [(1, _), (0, _)]) dX11_digest_32 (Nat.le_of_ble_eq_true rfl) rfl ?_
      exact r_keep [1, 0] rfl (l2 0 (by omega) L1 q)
    · refine r_iload_n dX11_digest_9 rfl ?_
      refine r_bipush (v := 7) dX11_digest_10 rfl ?_
      refine r_icmp_ge 31 dX11_digest_12 (by decide) (fun h12 => absurd h12 (fun q => absurd ((nI_leI (a := 7) (by omega) (by omega)).mp q) (by omega))) (fun h12 => ?_)
      refine r_aload_n dX11_digest_15 rfl ?_
      refine r_aload_n dX11_digest_16 rfl ?_
      refine r_iload_n dX11_digest_17 rfl ?_
      refine r_cVr (As := [_]) (c_counts V α _ _ k (by omega) h hrow hrk) lk_11_314 rfl rfl (by decide) (by decide) rfl rfl (Nat.le_of_ble_eq_true rfl) dX11_digest_18 ?_
      refine r_i2l dX11_digest_21 rfl ?_
      refine r_cVn (As := [_]) (c_X11_hashes α _ _ _) lk_11_324 rfl rfl (by decide) (by decide) rfl rfl (Nat.le_of_ble_eq_true rfl) dX11_digest_22 ?_
      refine r_iinc (v := _ + 1) (lv' := [(1, _), (0, _)]) dX11_digest_25 rfl rfl (Nat.le_of_ble_eq_true rfl) rfl ?_
      refine r_goto (tgt := 9) dX11_digest_28 (by decide) ?_
      rw [nI_1]
      exact r_keep [1, 0] rfl (ih (by omega) _ q.up)
  refine r_aload_n dX11_digest_0 rfl ?_
  refine r_ldc2 (v := (827 : Int64)) (fd_in 1386 (by decide +kernel) (by decide +kernel)) dX11_digest_1 ?_
  refine r_putJ rfl rfl fl_11_319 fw_11_38 dX11_digest_4 ?_
  refine r_iconst (v := 0) dX11_digest_7 rfl ?_
  refine r_istore_n (lv' := [(1, _), (0, _)]) dX11_digest_8 (Nat.le_of_ble_eq_true rfl) rfl ?_
  exact r_keep [1, 0] rfl (l1 0 (by omega) _ ⟨fun a ha => by rw [fd_up_cell ha], fun j hj => by rw [fd_up_pl hj], fd_up_same⟩)
