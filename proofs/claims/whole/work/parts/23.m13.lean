/-! the model: the game -/
def pc6 (x : Nat) : Nat := x % 2 + x / 2 % 2 + x / 4 % 2 + x / 8 % 2 + x / 16 % 2 + x / 32 % 2
def pcI (x : Int32) : Int32 := nI (pc6 x.toNatClampNeg)
def szF : Nat → Nat → Nat
  | 0, _ => 0
  | f + 1, x => bif Nat.beq x 0 then 0 else szF f (x &&& (x - 1)) + 1
def szK : Nat → Nat → Bool
  | 0, _ => false
  | f + 1, x => bif Nat.beq x 0 then true else szK f (x &&& (x - 1))
theorem sz64 : ∀ x, x < 64 → szK 7 x = true ∧ szF 7 x = pc6 x := by decide +kernel
theorem dayP_toNat {x : Int32} {m : Nat} (hm : m < 2 ^ 31) : x.toBitVec.toNat < m → dayP x m := by
  intro h
  have e : x = nI x.toBitVec.toNat := by
    apply Int32.toBitVec_inj.mp
    show x.toBitVec = BitVec.ofNat 32 x.toBitVec.toNat
    apply BitVec.eq_of_toNat_eq
    rw [BitVec.toNat_ofNat]
    exact (Nat.mod_eq_of_lt x.toBitVec.isLt).symm
  rw [e]
  exact nI_dayP h hm
theorem c_size {S : List fdE} (α : Nat → Nat) (I : fdI) (L : fdL) (x : Nat) (hx : x < 64) : Con S α yX11_size mX11_size [.int (nI x)] I L (fd_is (some (.int (nI (pc6 x)))) I L) := by
  refine Con.of (by decide) rfl (Nat.le_of_ble_eq_true rfl) ?_
  have loop : ∀ f x c, x < 64 → szK f x = true → Rn S α mX11_size 4 [(2, .int (nI x)), (1, .int (nI c)), (0, .int (nI x))] [] I L (fd_is (some (.int (nI (c + szF f x)))) I L) → True := fun _ _ _ _ _ _ => trivial
  have loop : ∀ f x c, x < 64 → szK f x = true → Rn S α mX11_size 4 [(2, .int (nI x)), (1, .int (nI c))] [] I L (fd_is (some (.int (nI (c + szF f x)))) I L) := by
    intro f
    induction f with
    | zero => intro x c _ h; cases h
    | succ f ih =>
      intro x c hx hk
      by_cases h0 : x = 0
      · subst h0
        refine r_iload_n dX11_size_4 rfl ?_
        refine r_if_eq 20 dX11_size_5 (by decide) (fun h5 => ?_) (fun h5 => absurd h5 (not_not_intro rfl))
        refine r_iload_n dX11_size_20 rfl ?_
        refine r_iret rfl dX11_size_21 ?_
        exact fd_isi rfl rfl rfl
      · have hb : Nat.beq x 0 = false := nbf h0
        have e1 : szF (f + 1) x = szF f (x &&& (x - 1)) + 1 := by
          show (bif _ then _ else _) = _
          rw [hb]; rfl
        have hk2 : szK f (x &&& (x - 1)) = true := by
          have : (bif Nat.beq x 0 then true else szK f (x &&& (x - 1))) = true := hk
          rwa [hb] at this
        obtain ⟨y, rfl⟩ : ∃ y, x = y + 1 := ⟨x - 1, by omega⟩
        rw [Nat.add_sub_cancel] at hk2 e1
        have hle : (y + 1) &&& y ≤ y := Nat.and_le_right
        have := ih ((y + 1) &&& y) (c + 1) (by omega) hk2
        rw [e1, show c + (szF f ((y + 1) &&& y) + 1) = c + 1 + szF f ((y + 1) &&& y) by omega]
        refine r_iload_n dX11_size_4 rfl ?_
        refine r_if_eq 20 dX11_size_5 (by decide) (fun h5 => absurd h5 (nI_ne0 (by omega) (by omega))) (fun h5 => ?_)
        refine r_iinc (v := _ + 1) (lv' := [(1, _), (2, _)]) dX11_size_8 rfl rfl (Nat.le_of_ble_eq_true rfl) rfl ?_
        refine r_iload_n dX11_size_11 rfl ?_
        refine r_iload_n dX11_size_12 rfl ?_
        refine r_iconst (v := 1) dX11_size_13 rfl ?_
        refine r_isub dX11_size_14 ?_
        rw [nI_pred]
        refine r_iand dX11_size_15 ?_
        rw [nI_and]
        refine r_istore_n (lv' := [(2, _), (1, _)]) dX11_size_16 (Nat.le_of_ble_eq_true rfl) rfl ?_
        refine r_goto (tgt := 4) dX11_size_17 (by decide) ?_
        rw [nI_1]
        exact r_keep [2, 1] rfl this
  refine r_iconst (v := 0) dX11_size_0 rfl ?_
  refine r_istore_n (lv' := [(1, _), (0, _)]) dX11_size_1 (Nat.le_of_ble_eq_true rfl) rfl ?_
  refine r_iload_n dX11_size_2 rfl ?_
  refine r_istore_n (lv' := [(2, _), (1, _), (0, _)]) dX11_size_3 (Nat.le_of_ble_eq_true rfl) rfl ?_
  refine r_keep [2, 1] rfl ?_
  have := loop 7 x 0 hx (sz64 x hx).1
  rwa [(sz64 x hx).2, Nat.zero_add] at this
theorem and64 {x y : Int32} (h : dayP x 64) : dayP (x &&& y) 64 := by
  refine dayP_toNat (by omega) ?_
  have : (x &&& y).toBitVec.toNat ≤ x.toBitVec.toNat := by
    show (x.toBitVec &&& y.toBitVec).toNat ≤ _
    rw [BitVec.toNat_and]
    exact Nat.and_le_left
  obtain ⟨j, hj, rfl⟩ := dayP_nI h
  have e : (nI j).toBitVec.toNat = j := by
    show (BitVec.ofNat 32 j).toNat = j
    rw [BitVec.toNat_ofNat]
    exact Nat.mod_eq_of_lt (by omega)
  omega
def hsV (V : pV) (n s : Nat) : Int32 := orN (fun e => if s / 2 ^ e % 2 = 1 then V 3 e else 0) n
def nmV (V : pV) (n : Nat) (G : Nat → Int32) (s d : Nat) : Int32 := pcI (V 3 d &&& (hsV V n s ^^^ -1)) - G (s ||| 2 ^ d)
theorem or128 {s d n : Nat} (hs : s < 2 ^ n) (hd : d < n) : s ||| 2 ^ d < 2 ^ n := Nat.or_lt_two_pow hs (Nat.pow_lt_pow_right (by omega) hd)
theorem pow7 {n : Nat} (h : n ≤ 7) : 2 ^ n ≤ 128 := Nat.pow_le_pow_right (n := 2) (by omega) h
theorem c_named (V : pV) (α : Nat → Nat) (I : fdI) (L : fdL) (s d : Nat) {n nn np nt : Nat} (h : mOk V I n nn np nt) (hs : s < 2 ^ n) (hd : d < n) : Con fd_SM α yX11_named mX11_named [.ref (α 0), .int (nI s), .int (nI d)] I L (fd_is (some (.int (nmV V n (I 19) s d))) I L) := by
  refine Con.of (by decide) rfl (Nat.le_of_ble_eq_true rfl) ?_
  have hn7 := h.2.1
  have h2n := pow7 hn7.2
  have hod := or128 hs hd
  have ht : ∀ d, d < n → I 4 d = V 3 d := fun d hd => (h.2.2.2.2.2.2.2.2.1.1 d hd).2.2.1
  have ok3 := fun d hd => (h.2.2.2.2.2.2.2.2.2.1 d hd).2.2.1
  have loop : ∀ e, e ≤ n → Rn fd_SM α mX11_named 5 [(4, .int (nI e)), (3, .int (orN (fun e => if s / 2 ^ e % 2 = 1 then V 3 e else 0) e)), (0, .ref (α 0)), (1, .int (nI s)), (2, .int (nI d))] [] I L (fd_is (some (.int (nmV V n (I 19) s d))) I L) := by
    refine fd_down (fun e he ih => ?_)
    by_cases hx : e = n
    · subst hx
      have a64 := and64 (y := hsV V e s ^^^ -1) (ok3 d hd)
      obtain ⟨x, hx64, ex⟩ := dayP_nI a64
      have epc : pcI (V 3 d &&& (hsV V e s ^^^ -1)) = nI (pc6 x) := by unfold pcI; rw [ex, nI_clamp (by omega)]
      refine r_iload dX11_named_5 rfl ?_
      refine r_aload_n dX11_named_7 rfl ?_
      refine r_getV rfl rfl fl_11_93 dX11_named_8 h.1 ?_
      refine r_icmp_ge 44 dX11_named_11 (by decide) (fun h11 => ?_) (fun h11 => absurd h11 (not_not_intro (Int32.le_refl _)))
      refine r_aload_n dX11_named_44 rfl ?_
      refine r_getR rfl rfl fl_11_19 dX11_named_45 ?_
      refine r_iload_n dX11_named_48 rfl ?_
      refine r_ialdN rfl dX11_named_49 (by omega) (by omega) (ht d hd) ?_
      refine r_iload_n dX11_named_50 rfl ?_
      refine r_iconst (v := (-1)) dX11_named_51 rfl ?_
      refine r_ixor dX11_named_52 ?_
      refine r_iand dX11_named_53 ?_
      rw [show V 3 d &&& (orN (fun e => if s / 2 ^ e % 2 = 1 then V 3 e else 0) e ^^^ -1) = nI x from ex]
      refine r_cSr (As := [_]) (c_size α _ _ x hx64) lk_11_209 (by decide) (by decide) rfl rfl (Nat.le_of_ble_eq_true rfl) dX11_named_54 ?_
      refine r_aload_n dX11_named_57 rfl ?_
      refine r_getR rfl rfl fl_11_64 dX11_named_58 ?_
      refine r_iload_n dX11_named_61 rfl ?_
      refine r_iconst (v := 1) dX11_named_62 rfl ?_
      refine r_iload_n dX11_named_63 rfl ?_
      refine r_ishl dX11_named_64 ?_
      rw [nI_shl1 (by omega)]
      refine r_ior dX11_named_65 ?_
      rw [nI_or]
      refine r_ialdN rfl dX11_named_66 (by omega) (by omega) rfl ?_
      refine r_isub dX11_named_67 ?_
      refine r_iret rfl dX11_named_68 ?_
      refine fd_isi ?_ rfl rfl
      unfold nmV
      rw [epc]
    · have hen : e < n := by omega
      by_cases hb : s / 2 ^ e % 2 = 1
      · have e1 : orN (fun e => if s / 2 ^ e % 2 = 1 then V 3 e else 0) (e + 1) = orN (fun e => if s / 2 ^ e % 2 = 1 then V 3 e else 0) e ||| V 3 e := by
          show _ ||| (if _ then _ else _) = _
          rw [if_pos hb]
        have ih := ih hen
        rw [e1] at ih
        refine r_iload dX11_named_5 rfl ?_
        refine r_aload_n dX11_named_7 rfl ?_
        refine r_getV rfl rfl fl_11_93 dX11_named_8 h.1 ?_
        refine r_icmp_ge 44 dX11_named_11 (by decide) (fun h11 => absurd h11 (fun q => absurd ((nI_leI (by omega) (by omega)).mp q) (by omega))) (fun h11 => ?_)
        refine r_iload_n dX11_named_14 rfl ?_
        refine r_iload_n dX11_named_15 rfl ?_
        refine r_iload dX11_named_16 rfl ?_
        refine r_ishr dX11_named_18 ?_
        rw [nI_shr (by omega) (by omega)]
        refine r_iconst (v := 1) dX11_named_19 rfl ?_
        refine r_iand dX11_named_20 ?_
        rw [nI_and1]
        refine r_iconst (v := 1) dX11_named_21 rfl ?_
        refine r_icmp_ne 35 dX11_named_22 (by decide) (fun h22 => absurd h22 (not_not_intro (by rw [hb]; rfl))) (fun h22 => ?_)
        refine r_aload_n dX11_named_25 rfl ?_
        refine r_getR rfl rfl fl_11_19 dX11_named_26 ?_
        refine r_iload dX11_named_29 rfl ?_
        refine r_ialdN rfl dX11_named_31 (by omega) (by omega) (ht e hen) ?_
        refine r_goto (tgt := 36) dX11_named_32 (by decide) ?_
        refine r_ior dX11_named_36 ?_
        refine r_istore_n (lv' := [(3, _), (4, _), (0, _), (1, _), (2, _)]) dX11_named_37 (Nat.le_of_ble_eq_true rfl) rfl ?_
        refine r_iinc (v := _ + 1) (lv' := [(4, _), (3, _), (0, _), (1, _), (2, _)]) dX11_named_38 rfl rfl (Nat.le_of_ble_eq_true rfl) rfl ?_
        refine r_goto (tgt := 5) dX11_named_41 (by decide) ?_
        rw [nI_1]
        exact r_keep [4, 3, 0, 1, 2] rfl ih
      · have e1 : orN (fun e => if s / 2 ^ e % 2 = 1 then V 3 e else 0) (e + 1) = orN (fun e => if s / 2 ^ e % 2 = 1 then V 3 e else 0) e ||| 0 := by
          show _ ||| (if _ then _ else _) = _
          rw [if_neg hb]
        have ih := ih hen
        rw [e1] at ih
        refine r_iload dX11_named_5 rfl ?_
        refine r_aload_n dX11_named_7 rfl ?_
        refine r_getV rfl rfl fl_11_93 dX11_named_8 h.1 ?_
        refine r_icmp_ge 44 dX11_named_11 (by decide) (fun h11 => absurd h11 (fun q => absurd ((nI_leI (by omega) (by omega)).mp q) (by omega))) (fun h11 => ?_)
        refine r_iload_n dX11_named_14 rfl ?_
        refine r_iload_n dX11_named_15 rfl ?_
        refine r_iload dX11_named_16 rfl ?_
        refine r_ishr dX11_named_18 ?_
        rw [nI_shr (by omega) (by omega)]
        refine r_iconst (v := 1) dX11_named_19 rfl ?_
        refine r_iand dX11_named_20 ?_
        rw [nI_and1]
        refine r_iconst (v := 1) dX11_named_21 rfl ?_
        refine r_icmp_ne 35 dX11_named_22 (by decide) (fun h22 => ?_) (fun h22 => absurd h22 (by rw [show s / 2 ^ e % 2 = 0 by omega]; decide))
        refine r_iconst (v := 0) dX11_named_35 rfl ?_
        refine r_ior dX11_named_36 ?_
        refine r_istore_n (lv' := [(3, _), (4, _), (0, _), (1, _), (2, _)]) dX11_named_37 (Nat.le_of_ble_eq_true rfl) rfl ?_
        refine r_iinc (v := _ + 1) (lv' := [(4, _), (3, _), (0, _), (1, _), (2, _)]) dX11_named_38 rfl rfl (Nat.le_of_ble_eq_true rfl) rfl ?_
        refine r_goto (tgt := 5) dX11_named_41 (by decide) ?_
        rw [nI_1]
        exact r_keep [4, 3, 0, 1, 2] rfl ih
  refine r_iconst (v := 0) dX11_named_0 rfl ?_
  refine r_istore_n (lv' := [(3, _), (0, _), (1, _), (2, _)]) dX11_named_1 (Nat.le_of_ble_eq_true rfl) rfl ?_
  refine r_iconst (v := 0) dX11_named_2 rfl ?_
  refine r_istore (lv' := [(4, _), (3, _), (0, _), (1, _), (2, _)]) dX11_named_3 (Nat.le_of_ble_eq_true rfl) rfl ?_
  exact r_keep [4, 3, 0, 1, 2] rfl (loop 0 (by omega))
/-- who names what: the best so far, and the day that was named last as better -/
def gmO (V : pV) (n : Nat) (G : Nat → Int32) (s : Nat) (f0 : Int32) : Nat → Int32 × Int32
  | 0 => (-99, f0)
  | d + 1 => if (gmO V n G s f0 d).1 < (if s / 2 ^ d % 2 = 1 then -99 else nmV V n G s d) then ((if s / 2 ^ d % 2 = 1 then -99 else nmV V n G s d), nI d) else gmO V n G s f0 d
def gmS (V : pV) (n : Nat) : Nat → (Nat → Int32) × Int32
  | 0 => (fun _ => 0, 0)
  | k + 1 => (upd (gmS V n k).1 (2 ^ n - 2 - k) (gmO V n (gmS V n k).1 (2 ^ n - 2 - k) (gmS V n k).2 n).1, (gmO V n (gmS V n k).1 (2 ^ n - 2 - k) (gmS V n k).2 n).2)
def gmR (V : pV) (n : Nat) (w : Int32) : Int32 := if w = 0 then (gmS V n (2 ^ n - 1)).1 0 else (gmS V n (2 ^ n - 1)).2
theorem or_gt {s d : Nat} (h : ¬ s / 2 ^ d % 2 = 1) : s < s ||| 2 ^ d := by
  have h1 : s ≤ s ||| 2 ^ d := Nat.left_le_or
  have h2 : s ≠ s ||| 2 ^ d := by
    intro q
    have : (s ||| 2 ^ d).testBit d = true := by rw [Nat.testBit_or, Nat.testBit_two_pow_self, Bool.or_true]
    rw [← q, Nat.testBit_eq_decide_div_mod_eq] at this
    exact h (of_decide_eq_true this)
  omega
theorem gmO_congr {V : pV} {n : Nat} {G G' : Nat → Int32} {s : Nat} {f0 : Int32} (hs : s < 2 ^ n) (h : ∀ x, s < x → x < 2 ^ n → G' x = G x) : ∀ d, d ≤ n → gmO V n G' s f0 d = gmO V n G s f0 d := by
  intro d
  induction d with
  | zero => intro _; rfl
  | succ d ih =>
    intro hd
    have e : (if s / 2 ^ d % 2 = 1 then -99 else nmV V n G' s d) = (if s / 2 ^ d % 2 = 1 then -99 else nmV V n G s d) := by
      split
      · rfl
      · next q =>
        unfold nmV
        rw [h _ (or_gt q) (or128 hs (by omega))]
    unfold gmO
    rw [ih (by omega), e]
theorem c_X11_game (V : pV) (α : Nat → Nat) (I : fdI) (L : fdL) (w : Int32) {n nn np nt : Nat} (h : mOk V I n nn np nt) : Con fd_SM α yX11_game mX11_game [.ref (α 0), .int w] I L (fd_ip (qsP (dayP w 2) (gmR V n w) (-100) I L)) := by
  refine Con.of (by decide) rfl (Nat.le_of_ble_eq_true rfl) ?_
  have hn7 := h.2.1
  have h2n := pow7 hn7.2
  have h2p : 2 ≤ 2 ^ n := Nat.pow_le_pow_right (n := 2) (by omega) hn7.1
  by_cases hok : dayP w 2
  · have loop : ∀ k m, m + k = 2 ^ n - 1 → ∀ I1 : fdI, (∀ a, a ≠ 19 → I1 a = I a) → (∀ x, m ≤ x → x < 2 ^ n → I1 19 x = (gmS V n k).1 x) → Rn fd_SM α mX11_game 42 [(3, .int (avI m)), (2, .int (gmS V n k).2), (0, .ref (α 0)), (1, .int w)] [] I1 L (fd_ip (qsP (dayP w 2) (gmR V n w) (-100) I L)) := by
      intro k m
      induction m generalizing k with
      | zero =>
        intro hk I1 g1 g2
        have : k = 2 ^ n - 1 := by omega
        subst this
        have sm : mSm I I1 := ⟨fun a a0 a1 a2 a3 a4 a5 a6 a7 => g1 a a7, fun j hj => by rw [g1 0 (by decide)]⟩
        refine r_iload_n dX11_game_42 rfl ?_
        refine r_if_lt 136 dX11_game_43 (by decide) (fun h43 => ?_) (fun h43 => absurd h43 (not_not_intro (by decide)))
        refine r_iload_n dX11_game_136 rfl ?_
        refine r_if_ne 149 dX11_game_137 (by decide) (fun h137 => ?_) (fun h137 => ?_)
        · have ev : (gmS V n (2 ^ n - 1)).2 = gmR V n w := (if_neg h137).symm
          refine r_iload_n dX11_game_149 rfl ?_
          refine r_iret rfl dX11_game_150 ?_
          rw [ev]
          exact ⟨_, rfl, qsP.yes hok rfl rfl sm⟩
        · have ev : (gmS V n (2 ^ n - 1)).1 0 = gmR V n w := (if_pos h137).symm
          refine r_aload_n dX11_game_140 rfl ?_
          refine r_getR rfl rfl fl_11_64 dX11_game_141 ?_
          refine r_iconst (v := 0) dX11_game_144 rfl ?_
          refine r_ialdN rfl dX11_game_145 (by decide) (by omega) (g2 0 (by omega) (by omega)) ?_
          refine r_goto (tgt := 150) dX11_game_146 (by decide) ?_
          refine r_iret rfl dX11_game_150 ?_
          rw [ev]
          exact ⟨_, rfl, qsP.yes hok rfl rfl sm⟩
      | succ s ih =>
        intro hk I1 g1 g2
        have sm : mSm I I1 := ⟨fun a a0 a1 a2 a3 a4 a5 a6 a7 => g1 a a7, fun j hj => by rw [g1 0 (by decide)]⟩
        have h1 := h.sm sm
        have hs : s < 2 ^ n := by omega
        have es : s = 2 ^ n - 2 - k := by omega
        have hG : ∀ d, d ≤ n → gmO V n (I1 19) s (gmS V n k).2 d = gmO V n (gmS V n k).1 s (gmS V n k).2 d := gmO_congr hs (fun x hx hx2 => g2 x (by omega) hx2)
        have inner : ∀ d, d ≤ n → Rn fd_SM α mX11_game 53 [(5, .int (nI d)), (4, .int (gmO V n (I1 19) s (gmS V n k).2 d).1), (3, .int (nI s)), (2, .int (gmO V n (I1 19) s (gmS V n k).2 d).2), (0, .ref (α 0)), (1, .int w)] [] I1 L (fd_ip (qsP (dayP w 2) (gmR V n w) (-100) I L)) := by
          refine fd_down (fun d hd ihd => ?_)
          by_cases hx : d = n
          · subst hx
            refine r_iload dX11_game_53 rfl ?_
            refine r_aload_n dX11_game_55 rfl ?_
            refine r_getV rfl rfl fl_11_93 dX11_game_56 h1.1 ?_
            refine r_icmp_ge 122 dX11_game_59 (by decide) (fun h59 => ?_) (fun h59 => absurd h59 (not_not_intro (Int32.le_refl _)))
            refine r_aload_n dX11_game_122 rfl ?_
            refine r_getR rfl rfl fl_11_64 dX11_game_123 ?_
            refine r_iload_n dX11_game_126 rfl ?_
            refine r_iload dX11_game_127 rfl ?_
            refine r_iastN rfl dX11_game_129 (by omega) (by omega) ?_
            refine r_iinc (v := _ + (-1)) (lv' := [(3, _), (5, _), (4, _), (2, _), (0, _), (1, _)]) dX11_game_130 rfl rfl (Nat.le_of_ble_eq_true rfl) rfl ?_
            rw [avI_m]
            refine r_goto (tgt := 42) dX11_game_133 (by decide) ?_
            refine r_keep [3, 2, 0, 1] rfl ?_
            rw [hG d (Nat.le_refl _)]
            have i2 := ih (k + 1) (by omega) (fd_up I1 19 s (gmO V d (gmS V d k).1 s (gmS V d k).2 d).1) (fun a ha => by rw [fd_up_cell ha]; exact g1 a ha) (fun x hx hx2 => by
              rw [fd_up_at]
              show _ = upd _ _ _ x
              rw [← es]
              unfold upd
              by_cases q : x = s
              · rw [if_pos q, if_pos q]
              · rw [if_neg q, if_neg q]; exact g2 x (by omega) hx2)
            rw [show (gmS V d (k + 1)).2 = (gmO V d (gmS V d k).1 s (gmS V d k).2 d).2 from by rw [es]; rfl] at i2
            exact i2
          · have hdn : d < n := by omega
            have ihd := ihd hdn
            have jn : ∀ own, own = (if s / 2 ^ d % 2 = 1 then -99 else nmV V n (I1 19) s d) → Rn fd_SM α mX11_game 84 [(5, .int (nI d)), (4, .int (gmO V n (I1 19) s (gmS V n k).2 d).1), (3, .int (nI s)), (2, .int (gmO V n (I1 19) s (gmS V n k).2 d).2), (0, .ref (α 0)), (1, .int w)] [.int own] I1 L (fd_ip (qsP (dayP w 2) (gmR V n w) (-100) I L)) := by
              intro own ho
              by_cases hc : (gmO V n (I1 19) s (gmS V n k).2 d).1 < own
              · have e1 : gmO V n (I1 19) s (gmS V n k).2 (d + 1) = (own, nI d) := by
                  show (if _ then _ else _) = _
                  rw [← ho, if_pos hc]
                rw [e1] at ihd
                refine r_istore (lv' := [(6, _), (5, _), (4, _), (3, _), (2, _), (0, _), (1, _)]) dX11_game_84 (Nat.le_of_ble_eq_true rfl) rfl ?_
                refine r_iload dX11_game_86 rfl ?_
                refine r_iload dX11_game_88 rfl ?_
                refine r_icmp_le 98 dX11_game_90 (by decide) (fun h90 => absurd h90 (Int32.not_le.mpr hc)) (fun h90 => ?_)
                refine r_iload dX11_game_93 rfl ?_
                refine r_goto (tgt := 99) dX11_game_95 (by decide) ?_
                refine r_istore_n (lv' := [(2, _), (6, _), (5, _), (4, _), (3, _), (0, _), (1, _)]) dX11_game_99 (Nat.le_of_ble_eq_true rfl) rfl ?_
                refine r_iload dX11_game_100 rfl ?_
                refine r_iload dX11_game_102 rfl ?_
                refine r_icmp_le 112 dX11_game_104 (by decide) (fun h104 => absurd h104 (Int32.not_le.mpr hc)) (fun h104 => ?_)
                refine r_iload dX11_game_107 rfl ?_
                refine r_goto (tgt := 114) dX11_game_109 (by decide) ?_
                refine r_istore (lv' := [(4, _), (2, _), (6, _), (5, _), (3, _), (0, _), (1, _)]) dX11_game_114 (Nat.le_of_ble_eq_true rfl) rfl ?_
                refine r_iinc (v := _ + 1) (lv' := [(5, _), (4, _), (2, _), (6, _), (3, _), (0, _), (1, _)]) dX11_game_116 rfl rfl (Nat.le_of_ble_eq_true rfl) rfl ?_
                refine r_goto (tgt := 53) dX11_game_119 (by decide) ?_
                rw [nI_1]
                exact r_keep [5, 4, 3, 2, 0, 1] rfl ihd
              · have e1 : gmO V n (I1 19) s (gmS V n k).2 (d + 1) = gmO V n (I1 19) s (gmS V n k).2 d := by
                  show (if _ then _ else _) = _
                  rw [← ho, if_neg hc]
                rw [e1] at ihd
                refine r_istore (lv' := [(6, _), (5, _), (4, _), (3, _), (2, _), (0, _), (1, _)]) dX11_game_84 (Nat.le_of_ble_eq_true rfl) rfl ?_
                refine r_iload dX11_game_86 rfl ?_
                refine r_iload dX11_game_88 rfl ?_
                refine r_icmp_le 98 dX11_game_90 (by decide) (fun h90 => ?_) (fun h90 => absurd h90 (not_not_intro (Int32.not_lt.mp hc)))
                refine r_iload_n dX11_game_98 rfl ?_
                refine r_istore_n (lv' := [(2, _), (6, _), (5, _), (4, _), (3, _), (0, _), (1, _)]) dX11_game_99 (Nat.le_of_ble_eq_true rfl) rfl ?_
                refine r_iload dX11_game_100 rfl ?_
                refine r_iload dX11_game_102 rfl ?_
                refine r_icmp_le 112 dX11_game_104 (by decide) (fun h104 => ?_) (fun h104 => absurd h104 (not_not_intro (Int32.not_lt.mp hc)))
                refine r_iload dX11_game_112 rfl ?_
                refine r_istore (lv' := [(4, _), (2, _), (6, _), (5, _), (3, _), (0, _), (1, _)]) dX11_game_114 (Nat.le_of_ble_eq_true rfl) rfl ?_
                refine r_iinc (v := _ + 1) (lv' := [(5, _), (4, _), (2, _), (6, _), (3, _), (0, _), (1, _)]) dX11_game_116 rfl rfl (Nat.le_of_ble_eq_true rfl) rfl ?_
                refine r_goto (tgt := 53) dX11_game_119 (by decide) ?_
                rw [nI_1]
                exact r_keep [5, 4, 3, 2, 0, 1] rfl ihd
            by_cases hb : s / 2 ^ d % 2 = 1
            · refine r_iload dX11_game_53 rfl ?_
              refine r_aload_n dX11_game_55 rfl ?_
              refine r_getV rfl rfl fl_11_93 dX11_game_56 h1.1 ?_
              refine r_icmp_ge 122 dX11_game_59 (by decide) (fun h59 => absurd h59 (fun q => absurd ((nI_leI (by omega) (by omega)).mp q) (by omega))) (fun h59 => ?_)
              refine r_iload_n dX11_game_62 rfl ?_
              refine r_iload dX11_game_63 rfl ?_
              refine r_ishr dX11_game_65 ?_
              rw [nI_shr (by omega) (by omega)]
              refine r_iconst (v := 1) dX11_game_66 rfl ?_
              refine r_iand dX11_game_67 ?_
              rw [nI_and1]
              refine r_iconst (v := 1) dX11_game_68 rfl ?_
              refine r_icmp_ne 77 dX11_game_69 (by decide) (fun h69 => absurd h69 (not_not_intro (by rw [hb]; rfl))) (fun h69 => ?_)
              refine r_bipush (v := (-99)) dX11_game_72 rfl ?_
              refine r_goto (tgt := 84) dX11_game_74 (by decide) ?_
              exact jn _ (if_pos hb).symm
            · refine r_iload dX11_game_53 rfl ?_
              refine r_aload_n dX11_game_55 rfl ?_
              refine r_getV rfl rfl fl_11_93 dX11_game_56 h1.1 ?_
              refine r_icmp_ge 122 dX11_game_59 (by decide) (fun h59 => absurd h59 (fun q => absurd ((nI_leI (by omega) (by omega)).mp q) (by omega))) (fun h59 => ?_)
              refine r_iload_n dX11_game_62 rfl ?_
              refine r_iload dX11_game_63 rfl ?_
              refine r_ishr dX11_game_65 ?_
              rw [nI_shr (by omega) (by omega)]
              refine r_iconst (v := 1) dX11_game_66 rfl ?_
              refine r_iand dX11_game_67 ?_
              rw [nI_and1]
              refine r_iconst (v := 1) dX11_game_68 rfl ?_
              refine r_icmp_ne 77 dX11_game_69 (by decide) (fun h69 => ?_) (fun h69 => absurd h69 (by rw [show s / 2 ^ d % 2 = 0 by omega]; decide))
              refine r_aload_n dX11_game_77 rfl ?_
              refine r_iload_n dX11_game_78 rfl ?_
              refine r_iload dX11_game_79 rfl ?_
              refine r_cVr (As := [_, _]) (c_named V α _ _ s d h1 hs hdn) lk_11_212 rfl rfl (by decide) (by decide) rfl rfl (Nat.le_of_ble_eq_true rfl) dX11_game_81 ?_
              exact jn _ (if_neg hb).symm
        show Rn fd_SM α mX11_game 42 [(3, .int (nI s)), (2, .int (gmS V n k).2), (0, .ref (α 0)), (1, .int w)] [] I1 L _
        refine r_iload_n dX11_game_42 rfl ?_
        refine r_if_lt 136 dX11_game_43 (by decide) (fun h43 => absurd h43 (nI_pos (by omega))) (fun h43 => ?_)
        refine r_bipush (v := (-99)) dX11_game_46 rfl ?_
        refine r_istore (lv' := [(4, _), (3, _), (2, _), (0, _), (1, _)]) dX11_game_48 (Nat.le_of_ble_eq_true rfl) rfl ?_
        refine r_iconst (v := 0) dX11_game_50 rfl ?_
        refine r_istore (lv' := [(5, _), (4, _), (3, _), (2, _), (0, _), (1, _)]) dX11_game_51 (Nat.le_of_ble_eq_true rfl) rfl ?_
        exact r_keep [5, 4, 3, 2, 0, 1] rfl (inner 0 (by omega))
    have e1 : nI (2 ^ n) - 1 = nI (2 ^ n - 1) := by
      obtain ⟨m, hm⟩ : ∃ m, 2 ^ n = m + 1 := ⟨2 ^ n - 1, by omega⟩
      rw [hm, nI_pred, Nat.add_sub_cancel]
    have e2 : nI (2 ^ n) - 2 = avI (2 ^ n - 1) := by
      obtain ⟨m, hm⟩ : ∃ m, 2 ^ n = m + 2 := ⟨2 ^ n - 2, by omega⟩
      rw [hm]
      show nI (m + 2) - nI 2 = nI m
      rw [pk_sub (by omega)]
      congr 1
    refine r_iload_n dX11_game_0 rfl ?_
    refine r_i2l dX11_game_1 rfl ?_
    refine r_lconst (v := 0) dX11_game_2 rfl ?_
    refine r_lconst (v := 1) dX11_game_3 rfl ?_
    refine r_cSr (As := [_, _, _]) (c_in1 α _ _ _) lk_11_97 (by decide) (by decide) rfl rfl (Nat.le_of_ble_eq_true rfl) dX11_game_4 ?_
    refine r_if_ne 17 dX11_game_7 (by decide) (fun h7 => ?_) (fun h7 => absurd h7 (fd_bn.mpr hok))
    refine r_aload_n dX11_game_17 rfl ?_
    refine r_getR rfl rfl fl_11_64 dX11_game_18 ?_
    refine r_iconst (v := 1) dX11_game_21 rfl ?_
    refine r_aload_n dX11_game_22 rfl ?_
    refine r_getV rfl rfl fl_11_93 dX11_game_23 h.1 ?_
    refine r_ishl dX11_game_26 ?_
    rw [nI_shl1 (by omega)]
    refine r_iconst (v := 1) dX11_game_27 rfl ?_
    refine r_isub dX11_game_28 ?_
    rw [e1]
    refine r_iconst (v := 0) dX11_game_29 rfl ?_
    refine r_iastN rfl dX11_game_30 (by omega) (by omega) ?_
    refine r_iconst (v := 0) dX11_game_31 rfl ?_
    refine r_istore_n (lv' := [(2, _), (0, _), (1, _)]) dX11_game_32 (Nat.le_of_ble_eq_true rfl) rfl ?_
    refine r_iconst (v := 1) dX11_game_33 rfl ?_
    refine r_aload_n dX11_game_34 rfl ?_
    refine r_getV rfl rfl fl_11_93 dX11_game_35 h.1 ?_
    refine r_ishl dX11_game_38 ?_
    rw [nI_shl1 (by omega)]
    refine r_iconst (v := 2) dX11_game_39 rfl ?_
    refine r_isub dX11_game_40 ?_
    rw [e2]
    refine r_istore_n (lv' := [(3, _), (2, _), (0, _), (1, _)]) dX11_game_41 (Nat.le_of_ble_eq_true rfl) rfl ?_
    refine r_keep [3, 2, 0, 1] rfl (loop 0 (2 ^ n - 1) (by omega) _ (fun a ha => by rw [fd_up_cell ha]) (fun x hx hx2 => ?_))
    rw [fd_up_at, if_pos (by omega)]
    rfl
  · refine r_iload_n dX11_game_0 rfl ?_
    refine r_i2l dX11_game_1 rfl ?_
    refine r_lconst (v := 0) dX11_game_2 rfl ?_
    refine r_lconst (v := 1) dX11_game_3 rfl ?_
    refine r_cSr (As := [_, _, _]) (c_in1 α _ _ _) lk_11_97 (by decide) (by decide) rfl rfl (Nat.le_of_ble_eq_true rfl) dX11_game_4 ?_
    refine r_if_ne 17 dX11_game_7 (by decide) (fun h7 => absurd h7 (not_not_intro (fd_b0.mpr hok))) (fun h7 => ?_)
    refine r_aload_n dX11_game_10 rfl ?_
    refine r_bipush (v := (-100)) dX11_game_11 rfl ?_
    refine r_cVr (As := [_]) (c_X11_bad α _ _ _) lk_11_120 rfl rfl (by decide) (by decide) rfl rfl (Nat.le_of_ble_eq_true rfl) dX11_game_13 ?_
    refine r_iret rfl dX11_game_16 ?_
    exact ⟨_, rfl, qsP.no hok⟩
