/-! the class: the course lives through its order; it looks at a life -/
/-- by the order p: what is learnt ahead of each day, what she reads, what she knows -/
def lvX (V : pV) (n nn : Nat) (p : Nat → Nat) (I : fdI) : Prop := ∀ d, d < n → I 65 d = BV V p n d ∧ I 66 d = rdV V nn (knV V n nn p) d ∧ I 67 d = knV V n nn p d
def ltP (V : pV) (n nn : Nat) (p : Nat → Nat) (I : fdI) (L : fdL) (I' : fdI) (L' : fdL) : Prop := L' = L ∧ (∀ a, a < 65 ∨ 67 < a → I' a = I a) ∧ lvX V n nn p I'
theorem c_X2_liveThrough (V : pV) (α : Nat → Nat) (I : fdI) (L : fdL) {n nn : Nat} {p : Nat → Nat} (hn7 : 1 ≤ n ∧ n ≤ 7) (hV : ∀ k, k < nn → dayP (V 6 k) n) (hp : isP p n) (h : lkX V n nn I) (ho : orX n p I) : Con fd_SX α yX2_liveThrough mX2_liveThrough [.ref (α 57)] I L (fd_vp (ltP V n nn p I L)) := by
  refine Con.of (by decide) rfl (Nat.le_of_ble_eq_true rfl) ?_
  have loop : ∀ k, k ≤ n → ∀ I1 : fdI, (∀ a, a ≠ 65 → I1 a = I a) → (∀ i, i < k → I1 65 (p i) = ahV V p i) → Rn fd_SX α mX2_liveThrough 4 [(2, .int (nI k)), (1, .int (ahV V p k)), (0, .ref (α 57))] [] I1 L (fd_vp (ltP V n nn p I L)) := by
    refine fd_down (fun k hk ih => ?_)
    intro I1 g1 g2
    have e57 : I1 57 = I 57 := g1 57 (by decide)
    have hd : I1 57 0 = nI n := by rw [e57]; exact h.1
    by_cases hx : k = n
    · subst hx
      have h1 : lkX V k nn I1 := ⟨hd, fun d hd => by
        rw [g1 60 (by decide), g1 61 (by decide), g1 62 (by decide), g1 63 (by decide), g1 64 (by decide)]
        exact h.2 d hd⟩
      have hB : ∀ d, d < k → I1 65 d = BV V p k d := by
        intro d hd
        obtain ⟨z1, z2⟩ := ps_lt hp hd
        have := g2 _ z1
        rw [z2] at this
        exact this
      refine r_iload_n dX2_liveThrough_4 rfl ?_
      refine r_aload_n dX2_liveThrough_5 rfl ?_
      refine r_getV rfl rfl fl_2_49 dX2_liveThrough_6 hd ?_
      refine r_icmp_ge 41 dX2_liveThrough_9 (by decide) (fun h9 => ?_) (fun h9 => absurd h9 (not_not_intro (Int32.le_refl _)))
      refine r_aload_n dX2_liveThrough_41 rfl ?_
      refine r_aload_n dX2_liveThrough_42 rfl ?_
      refine r_getR rfl rfl fl_2_34 dX2_liveThrough_43 ?_
      refine r_cVq (As := [_]) (c_X2_readByDate V (noN V nn) (BV V p k) α _ _ 65 rfl (by decide) hn7 h1 hB) lk_2_93 rfl rfl (by decide) (by decide) rfl rfl (Nat.le_of_ble_eq_true rfl) dX2_liveThrough_46 (fun I46 L46 q46 => ?_)
      obtain ⟨rfl, y46, z46⟩ := q46
      refine r_vret rfl dX2_liveThrough_49 ?_
      refine ⟨rfl, rfl, fun a ha => (y46 a (by omega) (by omega)).trans (g1 a (by omega)), fun d hd => ?_⟩
      obtain ⟨w1, w2⟩ := z46 d hd
      exact ⟨by rw [y46 65 (by decide) (by decide)]; exact hB d hd, w1.trans (kyF_eq hn7.2 hV hd), w2.trans (kyK_eq hn7.2 hV hd)⟩
    · have hpk := hp.1 k (by omega)
      have e1 : I1 58 k = nI (p k) := by rw [g1 58 (by decide)]; exact ho k (by omega)
      have e2 : I1 62 (p k) = lnV V (p k) := by rw [g1 62 (by decide)]; exact (h.2 _ hpk).2.2.1
      refine r_iload_n dX2_liveThrough_4 rfl ?_
      refine r_aload_n dX2_liveThrough_5 rfl ?_
      refine r_getV rfl rfl fl_2_49 dX2_liveThrough_6 hd ?_
      refine r_icmp_ge 41 dX2_liveThrough_9 (by decide) (fun h9 => absurd h9 (fun q => absurd ((nI_leI (by omega) (by omega)).mp q) (by omega))) (fun h9 => ?_)
      refine r_aload_n dX2_liveThrough_12 rfl ?_
      refine r_getR rfl rfl fl_2_9 dX2_liveThrough_13 ?_
      refine r_iload_n dX2_liveThrough_16 rfl ?_
      refine r_ialdN rfl dX2_liveThrough_17 (by omega) (by omega) e1 ?_
      refine r_istore_n (lv' := [(3, _), (2, _), (1, _), (0, _)]) dX2_liveThrough_18 (Nat.le_of_ble_eq_true rfl) rfl ?_
      refine r_aload_n dX2_liveThrough_19 rfl ?_
      refine r_getR rfl rfl fl_2_34 dX2_liveThrough_20 ?_
      refine r_iload_n dX2_liveThrough_23 rfl ?_
      refine r_iload_n dX2_liveThrough_24 rfl ?_
      refine r_iastN rfl dX2_liveThrough_25 (by omega) (by omega) ?_
      refine r_iload_n dX2_liveThrough_26 rfl ?_
      refine r_aload_n dX2_liveThrough_27 rfl ?_
      refine r_getR rfl rfl fl_2_25 dX2_liveThrough_28 ?_
      refine r_iload_n dX2_liveThrough_31 rfl ?_
      refine r_ialdN rfl dX2_liveThrough_32 (by omega) (by omega) e2 ?_
      refine r_ior dX2_liveThrough_33 ?_
      refine r_istore_n (lv' := [(1, _), (3, _), (2, _), (0, _)]) dX2_liveThrough_34 (Nat.le_of_ble_eq_true rfl) rfl ?_
      refine r_iinc (v := _ + 1) (lv' := [(2, _), (1, _), (3, _), (0, _)]) dX2_liveThrough_35 rfl rfl (Nat.le_of_ble_eq_true rfl) rfl ?_
      refine r_goto (tgt := 4) dX2_liveThrough_38 (by decide) ?_
      rw [nI_1]
      refine r_keep [2, 1, 0] rfl (ih (by omega) _ (fun a ha => by rw [fd_up_cell ha]; exact g1 a ha) (fun i hi => ?_))
      by_cases q : i = k
      · rw [q, fd_up_same]
      · rw [fd_up_pl (fun z => q (hp.2 i k (by omega) (by omega) z))]; exact g2 i (by omega)
  refine r_iconst (v := 0) dX2_liveThrough_0 rfl ?_
  refine r_istore_n (lv' := [(1, _), (0, _)]) dX2_liveThrough_1 (Nat.le_of_ble_eq_true rfl) rfl ?_
  refine r_iconst (v := 0) dX2_liveThrough_2 rfl ?_
  refine r_istore_n (lv' := [(2, _), (1, _), (0, _)]) dX2_liveThrough_3 (Nat.le_of_ble_eq_true rfl) rfl ?_
  exact r_keep [2, 1, 0] rfl (loop 0 (by omega) I (fun _ _ => rfl) (fun i hi => by omega))
theorem c_X7_canRead {S : List fdE} (α : Nat → Nat) (I : fdI) (L : fdL) (k : Nat) : Con S α yX7_canRead mX7_canRead [.ref (α k)] I L (fd_is (some (.int 1)) I L) := by
  refine Con.of (by decide) rfl (Nat.le_of_ble_eq_true rfl) ?_
  refine r_iconst (v := 1) dX7_canRead_0 rfl ?_
  refine r_zret rfl (by decide) dX7_canRead_1 ?_
  exact fd_isI rfl rfl rfl
theorem c_X7_canWrite {S : List fdE} (α : Nat → Nat) (I : fdI) (L : fdL) (k : Nat) : Con S α yX7_canWrite mX7_canWrite [.ref (α k)] I L (fd_is (some (.int 1)) I L) := by
  refine Con.of (by decide) rfl (Nat.le_of_ble_eq_true rfl) ?_
  refine r_iconst (v := 1) dX7_canWrite_0 rfl ?_
  refine r_zret rfl (by decide) dX7_canWrite_1 ?_
  exact fd_isI rfl rfl rfl
theorem c_X7_learntOf {S : List fdE} (α : Nat → Nat) (I : fdI) (L : fdL) (k : Nat) (a b : Int32) : Con S α yX7_learntOf mX7_learntOf [.ref (α k), .int a, .int b] I L (fd_is (some (.int b)) I L) := by
  refine Con.of (by decide) rfl (Nat.le_of_ble_eq_true rfl) ?_
  refine r_iload_n dX7_learntOf_0 rfl ?_
  refine r_iret rfl dX7_learntOf_1 ?_
  exact fd_isI rfl rfl rfl
theorem c_X7_neededOf {S : List fdE} (α : Nat → Nat) (I : fdI) (L : fdL) (k : Nat) (a : Int32) : Con S α yX7_neededOf mX7_neededOf [.ref (α k), .int a] I L (fd_is (some (.int a)) I L) := by
  refine Con.of (by decide) rfl (Nat.le_of_ble_eq_true rfl) ?_
  refine r_iload_n dX7_neededOf_0 rfl ?_
  refine r_iret rfl dX7_neededOf_1 ?_
  exact fd_isI rfl rfl rfl
theorem c_X1_canRead {S : List fdE} (α : Nat → Nat) (I : fdI) (L : fdL) (k : Nat) : Con S α yX1_canRead mX1_canRead [.ref (α k)] I L (fd_is (some (.int 0)) I L) := by
  refine Con.of (by decide) rfl (Nat.le_of_ble_eq_true rfl) ?_
  refine r_iconst (v := 0) dX1_canRead_0 rfl ?_
  refine r_zret rfl (by decide) dX1_canRead_1 ?_
  exact fd_isI rfl rfl rfl
theorem c_X4_learntOf {S : List fdE} (α : Nat → Nat) (I : fdI) (L : fdL) (k : Nat) (a b : Int32) : Con S α yX4_learntOf mX4_learntOf [.ref (α k), .int a, .int b] I L (fd_is (some (.int 0)) I L) := by
  refine Con.of (by decide) rfl (Nat.le_of_ble_eq_true rfl) ?_
  refine r_iconst (v := 0) dX4_learntOf_0 rfl ?_
  refine r_iret rfl dX4_learntOf_1 ?_
  exact fd_isI rfl rfl rfl
theorem c_X0_canWrite {S : List fdE} (α : Nat → Nat) (I : fdI) (L : fdL) (k : Nat) : Con S α yX0_canWrite mX0_canWrite [.ref (α k)] I L (fd_is (some (.int 0)) I L) := by
  refine Con.of (by decide) rfl (Nat.le_of_ble_eq_true rfl) ?_
  refine r_iconst (v := 0) dX0_canWrite_0 rfl ?_
  refine r_zret rfl (by decide) dX0_canWrite_1 ?_
  exact fd_isI rfl rfl rfl
theorem c_X8_learntOf {S : List fdE} (α : Nat → Nat) (I : fdI) (L : fdL) (k : Nat) (a b : Int32) : Con S α yX8_learntOf mX8_learntOf [.ref (α k), .int a, .int b] I L (fd_is (some (.int (b ||| a))) I L) := by
  refine Con.of (by decide) rfl (Nat.le_of_ble_eq_true rfl) ?_
  refine r_iload_n dX8_learntOf_0 rfl ?_
  refine r_iload_n dX8_learntOf_1 rfl ?_
  refine r_ior dX8_learntOf_2 ?_
  refine r_iret rfl dX8_learntOf_3 ?_
  exact fd_isI rfl rfl rfl
theorem c_X3_canWrite {S : List fdE} (α : Nat → Nat) (I : fdI) (L : fdL) (k : Nat) : Con S α yX3_canWrite mX3_canWrite [.ref (α k)] I L (fd_is (some (.int 0)) I L) := by
  refine Con.of (by decide) rfl (Nat.le_of_ble_eq_true rfl) ?_
  refine r_iconst (v := 0) dX3_canWrite_0 rfl ?_
  refine r_zret rfl (by decide) dX3_canWrite_1 ?_
  exact fd_isI rfl rfl rfl
theorem c_X3_neededOf {S : List fdE} (α : Nat → Nat) (I : fdI) (L : fdL) (k : Nat) (a : Int32) : Con S α yX3_neededOf mX3_neededOf [.ref (α k), .int a] I L (fd_is (some (.int 0)) I L) := by
  refine Con.of (by decide) rfl (Nat.le_of_ble_eq_true rfl) ?_
  refine r_iconst (v := 0) dX3_neededOf_0 rfl ?_
  refine r_iret rfl dX3_neededOf_1 ?_
  exact fd_isI rfl rfl rfl
theorem r_alenR {S : List fdE} {α : Nat → Nat} {y : fdM} {pc : Nat} {lv : List (Nat × Value)} {st : List Value} {I : fdI} {L : fdL} {Q : Option Value → fdI → fdL → Prop} {k t n : Nat} {rs : List Nat} {ty : FieldType} (hS0 : S[k]? = some (.inr (.inr (t, rs)))) (hn : rs.length = n) (ht : ∀ dA : Nat → ClassId, (fd_tys dA)[t]? = some (dA t, ty)) (hdg : decode y.1 pc = .ok (.arraylength, 1)) (K : Rn S α y (pc + 1) lv (.int (nI n) :: st) I L Q) : Rn S α y pc lv (.ref (α k) :: st) I L Q := by
  subst hn
  intro p l e s m args below meth c A dC dI dA F H locs ls hP hS hl
  exact va_alen F.1 F.2.1 F.2.2.2.2.2.2.2.1 hP k t (fd_get S α dA I L hS0) (ht dA) rfl hdg (K p l e s m args below meth c A dC dI dA F H locs ls hP hS hl)
theorem c_X2_kindOf (α : Nat → Nat) (I : fdI) (L : fdL) (d κ : Nat) (hd : d < 7) (hκ : κ < 6) (hk : I 9 d = nI κ) : Con fd_SX α yX2_kindOf mX2_kindOf [.ref (α 8), .ref (α 1), .int (nI d)] I L (fd_is (some (.ref (α (2 + κ)))) I L) := by
  refine Con.of (by decide) rfl (Nat.le_of_ble_eq_true rfl) ?_
  have hn0 := nI_pos (n := κ) (by omega)
  have hn6 : ¬ nI 6 ≤ nI κ := fun q => absurd ((nI_leI (by omega) (by omega)).mp q) (by omega)
  have hr : [2, 3, 4, 5, 6, 7][(nI κ).toNatClampNeg]? = some (2 + κ) := by
    rw [nI_clamp (by omega)]
    rcases (show κ = 0 ∨ κ = 1 ∨ κ = 2 ∨ κ = 3 ∨ κ = 4 ∨ κ = 5 by omega) with rfl | rfl | rfl | rfl | rfl | rfl <;> rfl
  refine r_aload_n dX2_kindOf_0 rfl ?_
  refine r_getR rfl rfl fl_2_80 dX2_kindOf_1 ?_
  refine r_iload_n dX2_kindOf_4 rfl ?_
  refine r_ialdN rfl dX2_kindOf_5 hd (by omega) hk ?_
  refine r_istore_n (lv' := [(3, _), (0, _), (1, _), (2, _)]) dX2_kindOf_6 (Nat.le_of_ble_eq_true rfl) rfl ?_
  refine r_iload_n dX2_kindOf_7 rfl ?_
  refine r_if_lt 23 dX2_kindOf_8 (by decide) (fun h8 => absurd h8 hn0) (fun h8 => ?_)
  refine r_iload_n dX2_kindOf_11 rfl ?_
  refine r_aload_n dX2_kindOf_12 rfl ?_
  refine r_alenR rfl rfl (fun _ => rfl) dX2_kindOf_13 ?_
  refine r_icmp_ge 23 dX2_kindOf_14 (by decide) (fun h14 => absurd h14 hn6) (fun h14 => ?_)
  refine r_aload_n dX2_kindOf_17 rfl ?_
  refine r_iload_n dX2_kindOf_18 rfl ?_
  refine r_aald rfl (fun _ => rfl) dX2_kindOf_19 (dayP_in (nI_dayP hκ (by decide))) hr ?_
  refine r_goto (tgt := 24) dX2_kindOf_20 (by decide) ?_
  refine r_aret rfl dX2_kindOf_24 ?_
  exact fd_isI rfl rfl rfl
