/-! the class: the course goes on to the next order -/
theorem prm_last {n : Nat} (h : 1 ≤ n ∧ n ≤ 7) : nxA (prm n (fac n - 1)) (n - 1) = 0 := by
  have a : ∀ n, n < 8 → 1 ≤ n → Nat.beq (nxA (prm n (fac n - 1)) (n - 1)) 0 = true := by decide +kernel
  exact Nat.eq_of_beq_eq_true (a n (by omega) h.1)
def goP (I : fdI) (L : fdL) (n r : Nat) (I' : fdI) (L' : fdL) : Prop := L' = L ∧ (∀ a, a ≠ 58 → a ≠ 59 → I' a = I a) ∧ (r + 1 < fac n → orX n (prm n (r + 1)) I' ∧ plX n (prm n (r + 1)) I')
set_option maxHeartbeats 1000000 in
theorem c_X2_goOn (α : Nat → Nat) (I : fdI) (L : fdL) (r : Nat) {n : Nat} (hn : I 57 0 = nI n) (hn7 : 1 ≤ n ∧ n ≤ 7) (hr : r < fac n) (hrow : orX n (prm n r) I) : Con fd_SX α yX2_goOn mX2_goOn [.ref (α 57)] I L (fd_vp (goP I L n r)) := by
  refine Con.of (by decide) rfl (Nat.le_of_ble_eq_true rfl) ?_
  have hp : ∀ k, k < n → prm n r k < n := (prm_P hn7 hr).1
  generalize hpp : prm n r = p at hrow hp
  have hA := nxA_le p (n - 1)
  have hq := nxQ_lt hp
  generalize hi0 : nxA p (n - 1) = i0 at hA
  -- behind the last order nothing is asked
  have hmore : i0 ≠ 0 → r + 1 < fac n := by
    intro h0
    by_cases q : r + 1 < fac n
    · exact q
    · have e : r = fac n - 1 := by omega
      subst e
      rw [← hpp, prm_last hn7] at hi0
      exact absurd hi0.symm h0
  have hnx : i0 ≠ 0 → (∀ k, k < n → nxP p n k = prm n (r + 1) k) ∧ isP (prm n (r + 1)) n := by
    intro h0
    have h1 := hmore h0
    refine ⟨?_, prm_P hn7 h1⟩
    rw [← hpp]
    exact prm_next hn7 h1
  have en2 : ∀ m : Nat, nI (m + 1) - 2 = avI m := by
    intro m
    cases m with
    | zero => decide
    | succ m =>
      show nI (m + 2) - nI 2 = nI m
      rw [pk_sub (by omega)]
      congr 1
  have en1 : nI n - 1 = nI (n - 1) := by
    obtain ⟨m, rfl⟩ : ∃ m, n = m + 1 := ⟨n - 1, by omega⟩
    rw [nI_pred, Nat.add_sub_cancel]
  have revend : ∀ i j k, k < n → (∃ t, i = i0 + t ∧ j + t = n - 1) → j ≤ i → i ≤ j + 1 → (if (i0 ≤ k ∧ k < i) ∨ j < k then nxQ p n (i0 + (n - 1) - k) else nxQ p n k) = (bif Nat.ble i0 k && Nat.ble k (n - 1) then nxQ p n (i0 + (n - 1) - k) else nxQ p n k) := by
    intro i j k hk ⟨t, ht1, ht2⟩ hji hij
    rw [Nat.ble_eq_true_of_le (show k ≤ n - 1 by omega), Bool.and_true]
    by_cases c : i0 ≤ k
    · rw [Nat.ble_eq_true_of_le c, cond_true]
      split
      · rfl
      · next q =>
        congr 1
        omega
    · rw [show Nat.ble i0 k = false from Bool.eq_false_iff.mpr fun q => c (Nat.le_of_ble_eq_true q), cond_false, if_neg (by omega)]
  have fin : ∀ I1 : fdI, i0 ≠ 0 → (∀ a, a ≠ 58 → I1 a = I a) → (∀ k, k < n → I1 58 k = nI (nxP p n k)) → Rn fd_SX α mX2_goOn 112 [(0, .ref (α 57))] [] I1 L (fd_vp (goP I L n r)) := by
    intro I1 h0 g1 g2
    have hd : I1 57 0 = nI n := by rw [g1 57 (by decide)]; exact hn
    obtain ⟨k1, k2⟩ := hnx h0
    have hor : orX n (prm n (r + 1)) I1 := fun k hk => by rw [g2 k hk, k1 k hk]
    refine r_aload_n dX2_goOn_112 rfl ?_
    refine r_cVq (As := []) (c_X2_placeDays α _ _ hd hn7 k2 hor) lk_2_86 rfl rfl (by decide) (by decide) rfl rfl (Nat.le_of_ble_eq_true rfl) dX2_goOn_113 (fun I113 L113 q113 => ?_)
    obtain ⟨rfl, y113, z113⟩ := q113
    refine r_vret rfl dX2_goOn_116 ?_
    exact ⟨rfl, rfl, fun a a1 a2 => (y113 a a2).trans (g1 a a1), fun _ => ⟨fun k hk => by rw [y113 58 (by decide)]; exact hor k hk, z113⟩⟩
  -- the end of the row is turned round
  have gen : i0 ≠ 0 → ∀ m t i j, j = m → i = i0 + t → j + t = n - 1 → i ≤ j + 1 → ∀ I1 : fdI, (∀ a, a ≠ 58 → I1 a = I a) → (∀ k, k < n → I1 58 k = nI (if (i0 ≤ k ∧ k < i) ∨ j < k then nxQ p n (i0 + (n - 1) - k) else nxQ p n k)) →
      Rn fd_SX α mX2_goOn 90 [(4, .int (nI j)), (3, .int (nI i)), (0, .ref (α 57))] [] I1 L (fd_vp (goP I L n r)) := by
    intro h0 m
    have ends : ∀ t i j, i = i0 + t → j + t = n - 1 → i ≤ j + 1 → j ≤ i → ∀ I1 : fdI, (∀ a, a ≠ 58 → I1 a = I a) → (∀ k, k < n → I1 58 k = nI (if (i0 ≤ k ∧ k < i) ∨ j < k then nxQ p n (i0 + (n - 1) - k) else nxQ p n k)) →
        Rn fd_SX α mX2_goOn 90 [(4, .int (nI j)), (3, .int (nI i)), (0, .ref (α 57))] [] I1 L (fd_vp (goP I L n r)) := by
      intro t i j hi ht hij hji I1 g1 g2
      refine r_iload_n dX2_goOn_90 rfl ?_
      refine r_iload dX2_goOn_91 rfl ?_
      refine r_icmp_ge 112 dX2_goOn_93 (by decide) (fun h93 => ?_) (fun h93 => absurd h93 (not_not_intro ((nI_leI (by omega) (by omega)).mpr hji)))
      refine r_keep [0] rfl (fin I1 h0 g1 (fun k hk => ?_))
      rw [g2 k hk]
      congr 1
      unfold nxP nxR
      rw [hi0]
      exact revend _ _ k hk ⟨t, hi, ht⟩ hji hij
    induction m with
    | zero =>
      intro t i j hj hi ht hij I1 g1 g2
      exact ends t i j hi ht hij (by omega) I1 g1 g2
    | succ m ih =>
      intro t i j hj hi ht hij I1 g1 g2
      by_cases hx : j ≤ i
      · exact ends t i j hi ht hij hx I1 g1 g2
      · subst hj
        have r1 : I1 58 i = nI (nxQ p n i) := by rw [g2 i (by omega), if_neg (by omega)]
        have r2 : I1 58 (m + 1) = nI (nxQ p n (m + 1)) := by rw [g2 (m + 1) (by omega), if_neg (by omega)]
        refine r_iload_n dX2_goOn_90 rfl ?_
        refine r_iload dX2_goOn_91 rfl ?_
        refine r_icmp_ge 112 dX2_goOn_93 (by decide) (fun h93 => absurd h93 (fun q => hx ((nI_leI (by omega) (by omega)).mp q))) (fun h93 => ?_)
        refine r_aload_n dX2_goOn_96 rfl ?_
        refine r_iload_n dX2_goOn_97 rfl ?_
        refine r_iload dX2_goOn_98 rfl ?_
        refine r_cVn (As := [_, _]) (c_X2_swap α _ _ i (m + 1) (by omega) (by omega)) lk_2_89 rfl rfl (by decide) (by decide) rfl rfl (Nat.le_of_ble_eq_true rfl) dX2_goOn_100 ?_
        rw [r1, r2]
        refine r_iinc (v := _ + 1) (lv' := [(3, _), (4, _), (0, _)]) dX2_goOn_103 rfl rfl (Nat.le_of_ble_eq_true rfl) rfl ?_
        refine r_iinc (v := _ + (-1)) (lv' := [(4, _), (3, _), (0, _)]) dX2_goOn_106 rfl rfl (Nat.le_of_ble_eq_true rfl) rfl ?_
        rw [pk_m1]
        refine r_goto (tgt := 90) dX2_goOn_109 (by decide) ?_
        rw [nI_1]
        refine r_keep [4, 3, 0] rfl (ih (t + 1) (i + 1) m rfl (by omega) (by omega) (by omega) _ (fun a ha => by rw [fd_up_cell ha, fd_up_cell ha]; exact g1 a ha) (fun k hk => ?_))
        rw [fd_up_at, fd_up_at]
        by_cases k1 : k = m + 1
        · rw [if_pos k1, if_pos (by omega)]
          congr 2
          omega
        · rw [if_neg k1]
          by_cases k2 : k = i
          · rw [if_pos k2, if_pos (by omega)]
            congr 2
            omega
          · rw [if_neg k2, g2 k hk]
            congr 1
            by_cases k3 : (i0 ≤ k ∧ k < i) ∨ m + 1 < k
            · rw [if_pos k3, if_pos (by omega)]
            · rw [if_neg k3, if_neg (by omega)]
  -- from the place on that is found
  have mid : Rn fd_SX α mX2_goOn 34 [(1, .int (avI i0)), (0, .ref (α 57))] [] I L (fd_vp (goP I L n r)) := by
    cases hi : i0 with
    | zero =>
      refine r_iload_n dX2_goOn_34 rfl ?_
      refine r_if_ge 39 dX2_goOn_35 (by decide) (fun h35 => absurd h35 (by decide)) (fun h35 => ?_)
      refine r_vret rfl dX2_goOn_38 ?_
      exact ⟨rfl, rfl, fun _ _ _ => rfl, fun q => absurd (show nxA p (n - 1) = 0 by rw [hi0, hi]) (by rw [← hpp]; exact prm_more hn7 q)⟩
    | succ a =>
      have h0 : i0 ≠ 0 := by omega
      have hup := nxA_up p (n - 1) a (hi0.trans hi)
      have ha : a + 1 ≤ n - 1 := by omega
      have eQ : nxQ p n = nxS p a (nxB p (p a) (n - 1)) := by
        unfold nxQ
        rw [hi0, hi]
        rfl
      have hBle := nxB_le p (p a) (n - 1)
      have swp : ∀ b, b = nxB p (p a) (n - 1) → a < b → Rn fd_SX α mX2_goOn 72 [(2, .int (nI b)), (1, .int (nI a)), (0, .ref (α 57))] [] I L (fd_vp (goP I L n r)) := by
        intro b hb hab
        refine r_aload_n dX2_goOn_72 rfl ?_
        refine r_iload_n dX2_goOn_73 rfl ?_
        refine r_iload_n dX2_goOn_74 rfl ?_
        refine r_cVn (As := [_, _]) (c_X2_swap α _ _ a b (by omega) (by omega)) lk_2_89 rfl rfl (by decide) (by decide) rfl rfl (Nat.le_of_ble_eq_true rfl) dX2_goOn_75 ?_
        rw [hrow a (by omega), hrow b (by omega)]
        refine r_iload_n dX2_goOn_78 rfl ?_
        refine r_iconst (v := 1) dX2_goOn_79 rfl ?_
        refine r_iadd dX2_goOn_80 ?_
        rw [nI_1]
        refine r_istore_n (lv' := [(3, _), (2, _), (1, _), (0, _)]) dX2_goOn_81 (Nat.le_of_ble_eq_true rfl) rfl ?_
        refine r_aload_n dX2_goOn_82 rfl ?_
        refine r_getV rfl rfl fl_2_49 dX2_goOn_83 hn ?_
        refine r_iconst (v := 1) dX2_goOn_86 rfl ?_
        refine r_isub dX2_goOn_87 ?_
        rw [en1]
        refine r_istore (lv' := [(4, _), (3, _), (2, _), (1, _), (0, _)]) dX2_goOn_88 (Nat.le_of_ble_eq_true rfl) rfl ?_
        refine r_keep [4, 3, 0] rfl (gen h0 (n - 1) 0 (a + 1) (n - 1) rfl (by omega) rfl (by omega) _ (fun c hc => by rw [fd_up_cell hc, fd_up_cell hc]) (fun k hk => ?_))
        rw [if_neg (by omega), fd_up_at, fd_up_at, eQ, ← hb]
        unfold nxS
        by_cases k1 : k = b
        · subst k1
          rw [if_pos rfl, Nat.beq_refl]
          rfl
        · rw [if_neg k1, nbf k1]
          by_cases k2 : k = a
          · subst k2
            rw [if_pos rfl, Nat.beq_refl]
            rfl
          · rw [if_neg k2, nbf k2, hrow k hk]
            rfl
      have lb : ∀ b, b ≤ n - 1 → a + 1 ≤ b → nxB p (p a) b = nxB p (p a) (n - 1) → Rn fd_SX α mX2_goOn 46 [(2, .int (nI b)), (1, .int (nI a)), (0, .ref (α 57))] [] I L (fd_vp (goP I L n r)) := by
        intro b
        induction b with
        | zero => intro _ h; omega
        | succ b ihb =>
          intro hb1 hb2 he
          have pa := hp a (by omega)
          have pb := hp (b + 1) (by omega)
          by_cases hx : p (b + 1) < p a
          · have e1 : nxB p (p a) b = nxB p (p a) (n - 1) := by
              rw [← he]
              show _ = bif _ then _ else _
              rw [Nat.ble_eq_true_of_le hx]
              rfl
            refine r_iload_n dX2_goOn_46 rfl ?_
            refine r_iload_n dX2_goOn_47 rfl ?_
            refine r_icmp_le 72 dX2_goOn_48 (by decide) (fun h48 => absurd h48 (fun q => absurd ((nI_leI (by omega) (by omega)).mp q) (by omega))) (fun h48 => ?_)
            refine r_aload_n dX2_goOn_51 rfl ?_
            refine r_getR rfl rfl fl_2_9 dX2_goOn_52 ?_
            refine r_iload_n dX2_goOn_55 rfl ?_
            refine r_ialdN rfl dX2_goOn_56 (by omega) (by omega) (hrow (b + 1) (by omega)) ?_
            refine r_aload_n dX2_goOn_57 rfl ?_
            refine r_getR rfl rfl fl_2_9 dX2_goOn_58 ?_
            refine r_iload_n dX2_goOn_61 rfl ?_
            refine r_ialdN rfl dX2_goOn_62 (by omega) (by omega) (hrow a (by omega)) ?_
            refine r_icmp_ge 72 dX2_goOn_63 (by decide) (fun h63 => absurd h63 (fun q => absurd ((nI_leI (by omega) (by omega)).mp q) (by omega))) (fun h63 => ?_)
            refine r_iinc (v := _ + (-1)) (lv' := [(2, _), (1, _), (0, _)]) dX2_goOn_66 rfl rfl (Nat.le_of_ble_eq_true rfl) rfl ?_
            rw [pk_m1]
            refine r_goto (tgt := 46) dX2_goOn_69 (by decide) ?_
            refine r_keep [2, 1, 0] rfl (ihb (by omega) ?_ e1)
            by_cases q : b = a
            · subst q; exact absurd hx hup
            · omega
          · have e1 : nxB p (p a) (b + 1) = b + 1 := by
              show (bif _ then _ else _) = _
              rw [show Nat.ble (p (b + 1) + 1) (p a) = false from Bool.eq_false_iff.mpr fun q => hx (Nat.le_of_ble_eq_true q)]
              rfl
            refine r_iload_n dX2_goOn_46 rfl ?_
            refine r_iload_n dX2_goOn_47 rfl ?_
            refine r_icmp_le 72 dX2_goOn_48 (by decide) (fun h48 => absurd h48 (fun q => absurd ((nI_leI (by omega) (by omega)).mp q) (by omega))) (fun h48 => ?_)
            refine r_aload_n dX2_goOn_51 rfl ?_
            refine r_getR rfl rfl fl_2_9 dX2_goOn_52 ?_
            refine r_iload_n dX2_goOn_55 rfl ?_
            refine r_ialdN rfl dX2_goOn_56 (by omega) (by omega) (hrow (b + 1) (by omega)) ?_
            refine r_aload_n dX2_goOn_57 rfl ?_
            refine r_getR rfl rfl fl_2_9 dX2_goOn_58 ?_
            refine r_iload_n dX2_goOn_61 rfl ?_
            refine r_ialdN rfl dX2_goOn_62 (by omega) (by omega) (hrow a (by omega)) ?_
            refine r_icmp_ge 72 dX2_goOn_63 (by decide) (fun h63 => ?_) (fun h63 => absurd h63 (not_not_intro ((nI_leI (by omega) (by omega)).mpr (by omega))))
            exact r_keep [2, 1, 0] rfl (swp (b + 1) (e1.symm.trans he) (by omega))
      show Rn fd_SX α mX2_goOn 34 [(1, .int (nI a)), (0, .ref (α 57))] [] I L _
      refine r_iload_n dX2_goOn_34 rfl ?_
      refine r_if_ge 39 dX2_goOn_35 (by decide) (fun h35 => ?_) (fun h35 => absurd h35 (not_not_intro (nI_pos' (by omega))))
      refine r_aload_n dX2_goOn_39 rfl ?_
      refine r_getV rfl rfl fl_2_49 dX2_goOn_40 hn ?_
      refine r_iconst (v := 1) dX2_goOn_43 rfl ?_
      refine r_isub dX2_goOn_44 ?_
      rw [en1]
      refine r_istore_n (lv' := [(2, _), (1, _), (0, _)]) dX2_goOn_45 (Nat.le_of_ble_eq_true rfl) rfl ?_
      exact r_keep [2, 1, 0] rfl (lb (n - 1) (Nat.le_refl _) ha rfl)
  have la : ∀ i, i ≤ n - 1 → nxA p i = i0 → Rn fd_SX α mX2_goOn 7 [(1, .int (avI i)), (0, .ref (α 57))] [] I L (fd_vp (goP I L n r)) := by
    intro i
    induction i with
    | zero =>
      intro h he
      have he : 0 = i0 := he
      subst he
      refine r_iload_n dX2_goOn_7 rfl ?_
      refine r_if_lt 34 dX2_goOn_8 (by decide) (fun h8 => ?_) (fun h8 => absurd h8 (not_not_intro (by decide)))
      exact r_keep [1, 0] rfl mid
    | succ i ih =>
      intro h he
      have pa := hp i (by omega)
      have pb := hp (i + 1) (by omega)
      by_cases hx : p (i + 1) < p i
      · have e1 : nxA p i = i0 := by
          rw [← he]
          show _ = bif _ then _ else _
          rw [Nat.ble_eq_true_of_le hx]
          rfl
        show Rn fd_SX α mX2_goOn 7 [(1, .int (nI i)), (0, .ref (α 57))] [] I L _
        refine r_iload_n dX2_goOn_7 rfl ?_
        refine r_if_lt 34 dX2_goOn_8 (by decide) (fun h8 => absurd h8 (nI_pos (by omega))) (fun h8 => ?_)
        refine r_aload_n dX2_goOn_11 rfl ?_
        refine r_getR rfl rfl fl_2_9 dX2_goOn_12 ?_
        refine r_iload_n dX2_goOn_15 rfl ?_
        refine r_ialdN rfl dX2_goOn_16 (by omega) (by omega) (hrow i (by omega)) ?_
        refine r_aload_n dX2_goOn_17 rfl ?_
        refine r_getR rfl rfl fl_2_9 dX2_goOn_18 ?_
        refine r_iload_n dX2_goOn_21 rfl ?_
        refine r_iconst (v := 1) dX2_goOn_22 rfl ?_
        refine r_iadd dX2_goOn_23 ?_
        rw [nI_1]
        refine r_ialdN rfl dX2_goOn_24 (by omega) (by omega) (hrow (i + 1) (by omega)) ?_
        refine r_icmp_le 34 dX2_goOn_25 (by decide) (fun h25 => absurd h25 (fun q => absurd ((nI_leI (by omega) (by omega)).mp q) (by omega))) (fun h25 => ?_)
        refine r_iinc (v := _ + (-1)) (lv' := [(1, _), (0, _)]) dX2_goOn_28 rfl rfl (Nat.le_of_ble_eq_true rfl) rfl ?_
        rw [avI_m]
        refine r_goto (tgt := 7) dX2_goOn_31 (by decide) ?_
        exact r_keep [1, 0] rfl (ih (by omega) e1)
      · have e1 : nxA p (i + 1) = i + 1 := by
          show (bif _ then _ else _) = _
          rw [show Nat.ble (p (i + 1) + 1) (p i) = false from Bool.eq_false_iff.mpr fun q => hx (Nat.le_of_ble_eq_true q)]
          rfl
        have e2 : i0 = i + 1 := he.symm.trans e1
        show Rn fd_SX α mX2_goOn 7 [(1, .int (nI i)), (0, .ref (α 57))] [] I L _
        refine r_iload_n dX2_goOn_7 rfl ?_
        refine r_if_lt 34 dX2_goOn_8 (by decide) (fun h8 => absurd h8 (nI_pos (by omega))) (fun h8 => ?_)
        refine r_aload_n dX2_goOn_11 rfl ?_
        refine r_getR rfl rfl fl_2_9 dX2_goOn_12 ?_
        refine r_iload_n dX2_goOn_15 rfl ?_
        refine r_ialdN rfl dX2_goOn_16 (by omega) (by omega) (hrow i (by omega)) ?_
        refine r_aload_n dX2_goOn_17 rfl ?_
        refine r_getR rfl rfl fl_2_9 dX2_goOn_18 ?_
        refine r_iload_n dX2_goOn_21 rfl ?_
        refine r_iconst (v := 1) dX2_goOn_22 rfl ?_
        refine r_iadd dX2_goOn_23 ?_
        rw [nI_1]
        refine r_ialdN rfl dX2_goOn_24 (by omega) (by omega) (hrow (i + 1) (by omega)) ?_
        refine r_icmp_le 34 dX2_goOn_25 (by decide) (fun h25 => ?_) (fun h25 => absurd h25 (not_not_intro ((nI_leI (by omega) (by omega)).mpr (by omega))))
        refine r_keep [1, 0] rfl ?_
        rw [e2] at mid
        exact mid
  refine r_aload_n dX2_goOn_0 rfl ?_
  refine r_getV rfl rfl fl_2_49 dX2_goOn_1 hn ?_
  refine r_iconst (v := 2) dX2_goOn_4 rfl ?_
  refine r_isub dX2_goOn_5 ?_
  refine r_istore_n (lv' := [(1, _), (0, _)]) dX2_goOn_6 (Nat.le_of_ble_eq_true rfl) rfl ?_
  obtain ⟨m, rfl⟩ : ∃ m, n = m + 1 := ⟨n - 1, by omega⟩
  rw [en2]
  exact r_keep [1, 0] rfl (la m (by omega) hi0)
