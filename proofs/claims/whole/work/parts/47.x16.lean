/-! the class: the course: its rows; how it lives an order -/
def plX (n : Nat) (p : Nat → Nat) (I : fdI) : Prop := ∀ k, k < n → I 59 (p k) = nI k
theorem c_X2_placeDays (α : Nat → Nat) (I : fdI) (L : fdL) {n : Nat} {p : Nat → Nat} (hd : I 57 0 = nI n) (hn7 : 1 ≤ n ∧ n ≤ 7) (hp : isP p n) (ho : orX n p I) : Con fd_SX α yX2_placeDays mX2_placeDays [.ref (α 57)] I L (fd_vp (fun I' L' => L' = L ∧ (∀ a, a ≠ 59 → I' a = I a) ∧ plX n p I')) := by
  refine Con.of (by decide) rfl (Nat.le_of_ble_eq_true rfl) ?_
  have loop : ∀ k, k ≤ n → ∀ I1 : fdI, (∀ a, a ≠ 59 → I1 a = I a) → (∀ i, i < k → I1 59 (p i) = nI i) → Rn fd_SX α mX2_placeDays 2 [(1, .int (nI k)), (0, .ref (α 57))] [] I1 L (fd_vp (fun I' L' => L' = L ∧ (∀ a, a ≠ 59 → I' a = I a) ∧ plX n p I')) := by
    refine fd_down (fun k hk ih => ?_)
    intro I1 g1 g2
    have hd1 : I1 57 0 = nI n := by rw [g1 57 (by decide)]; exact hd
    by_cases hx : k = n
    · subst hx
      refine r_iload_n dX2_placeDays_2 rfl ?_
      refine r_aload_n dX2_placeDays_3 rfl ?_
      refine r_getV rfl rfl fl_2_49 dX2_placeDays_4 hd1 ?_
      refine r_icmp_ge 28 dX2_placeDays_7 (by decide) (fun h7 => ?_) (fun h7 => absurd h7 (not_not_intro (Int32.le_refl _)))
      refine r_vret rfl dX2_placeDays_28 ?_
      exact ⟨rfl, rfl, g1, g2⟩
    · have hpk := hp.1 k (by omega)
      have e1 : I1 58 k = nI (p k) := by rw [g1 58 (by decide)]; exact ho k (by omega)
      refine r_iload_n dX2_placeDays_2 rfl ?_
      refine r_aload_n dX2_placeDays_3 rfl ?_
      refine r_getV rfl rfl fl_2_49 dX2_placeDays_4 hd1 ?_
      refine r_icmp_ge 28 dX2_placeDays_7 (by decide) (fun h7 => absurd h7 (fun q => absurd ((nI_leI (by omega) (by omega)).mp q) (by omega))) (fun h7 => ?_)
      refine r_aload_n dX2_placeDays_10 rfl ?_
      refine r_getR rfl rfl fl_2_15 dX2_placeDays_11 ?_
      refine r_aload_n dX2_placeDays_14 rfl ?_
      refine r_getR rfl rfl fl_2_9 dX2_placeDays_15 ?_
      refine r_iload_n dX2_placeDays_18 rfl ?_
      refine r_ialdN rfl dX2_placeDays_19 (by omega) (by omega) e1 ?_
      refine r_iload_n dX2_placeDays_20 rfl ?_
      refine r_iastN rfl dX2_placeDays_21 (by omega) (by omega) ?_
      refine r_iinc (v := _ + 1) (lv' := [(1, _), (0, _)]) dX2_placeDays_22 rfl rfl (Nat.le_of_ble_eq_true rfl) rfl ?_
      refine r_goto (tgt := 2) dX2_placeDays_25 (by decide) ?_
      rw [nI_1]
      refine r_keep [1, 0] rfl (ih (by omega) _ (fun a ha => by rw [fd_up_cell ha]; exact g1 a ha) (fun i hi => ?_))
      by_cases q : i = k
      · rw [q, fd_up_same]
      · rw [fd_up_pl (fun z => q (hp.2 i k (by omega) (by omega) z))]; exact g2 i (by omega)
  refine r_iconst (v := 0) dX2_placeDays_0 rfl ?_
  refine r_istore_n (lv' := [(1, _), (0, _)]) dX2_placeDays_1 (Nat.le_of_ble_eq_true rfl) rfl ?_
  exact r_keep [1, 0] rfl (loop 0 (by omega) I (fun _ _ => rfl) (fun i hi => by omega))
theorem c_X2_swap (α : Nat → Nat) (I : fdI) (L : fdL) (i j : Nat) (hi : i < 7) (hj : j < 7) : Con fd_SX α yX2_swap mX2_swap [.ref (α 57), .int (nI i), .int (nI j)] I L (fd_is none (fd_up (fd_up I 58 i (I 58 j)) 58 j (I 58 i)) L) := by
  refine Con.of (by decide) rfl (Nat.le_of_ble_eq_true rfl) ?_
  refine r_aload_n dX2_swap_0 rfl ?_
  refine r_getR rfl rfl fl_2_9 dX2_swap_1 ?_
  refine r_iload_n dX2_swap_4 rfl ?_
  refine r_ialdN rfl dX2_swap_5 hi (by omega) rfl ?_
  refine r_istore_n (lv' := [(3, _), (0, _), (1, _), (2, _)]) dX2_swap_6 (Nat.le_of_ble_eq_true rfl) rfl ?_
  refine r_aload_n dX2_swap_7 rfl ?_
  refine r_getR rfl rfl fl_2_9 dX2_swap_8 ?_
  refine r_iload_n dX2_swap_11 rfl ?_
  refine r_aload_n dX2_swap_12 rfl ?_
  refine r_getR rfl rfl fl_2_9 dX2_swap_13 ?_
  refine r_iload_n dX2_swap_16 rfl ?_
  refine r_ialdN rfl dX2_swap_17 hj (by omega) rfl ?_
  refine r_iastN rfl dX2_swap_18 hi (by omega) ?_
  refine r_aload_n dX2_swap_19 rfl ?_
  refine r_getR rfl rfl fl_2_9 dX2_swap_20 ?_
  refine r_iload_n dX2_swap_23 rfl ?_
  refine r_iload_n dX2_swap_24 rfl ?_
  refine r_iastN rfl dX2_swap_25 hj (by omega) ?_
  refine r_vret rfl dX2_swap_26 ?_
  exact fd_isI rfl rfl rfl
theorem rwI_ge {met : Nat} : ∀ f s d, d ≤ rwI met f s d := by
  intro f
  induction f with
  | zero => intro s d; exact Nat.le_refl _
  | succ f ih =>
    intro s d
    unfold rwI
    cases Nat.beq (met / 2 ^ d % 2) 1 with
    | true => exact Nat.le_of_succ_le (ih s (d + 1))
    | false =>
      cases Nat.ble 1 s with
      | true => exact Nat.le_of_succ_le (ih (s - 1) (d + 1))
      | false => exact Nat.le_refl _
def goT (I : fdI) (L : fdL) (n : Nat) (p : Nat → Nat) (I' : fdI) (L' : fdL) : Prop := L' = L ∧ (∀ a, a ≠ 58 → a ≠ 59 → I' a = I a) ∧ orX n p I' ∧ plX n p I'
theorem c_X2_goTo (α : Nat → Nat) (I : fdI) (L : fdL) (r : Nat) {n : Nat} (hn : I 57 0 = nI n) (hn7 : 1 ≤ n ∧ n ≤ 7) (hr : r < fac n) : Con fd_SX α yX2_goTo mX2_goTo [.ref (α 57), .int (nI r)] I L (fd_vp (goT I L n (prm n r))) := by
  refine Con.of (by decide) rfl (Nat.le_of_ble_eq_true rfl) ?_
  have hP := prm_P hn7 hr
  have loop : ∀ m left met k, m + k = n → rwGd m left (fac m) met = true → ∀ I1 : fdI, (∀ a, a ≠ 58 → I1 a = I a) → (∀ i, i < k → I1 58 i = nI (prm n r i)) → (∀ i, i < m → gtL (rwP m left (fac m) met) i = prm n r (k + i)) →
      Rn fd_SX α mX2_goTo 7 [(4, .int (nI k)), (3, .int (nI met)), (2, .int (nI left)), (0, .ref (α 57))] [] I1 L (fd_vp (goT I L n (prm n r))) := by
    intro m
    induction m with
    | zero =>
      intro left met k hk hg I1 g1 g2 g3
      have hd : I1 57 0 = nI n := by rw [g1 57 (by decide)]; exact hn
      have e : k = n := by omega
      subst e
      refine r_iload dX2_goTo_7 rfl ?_
      refine r_aload_n dX2_goTo_9 rfl ?_
      refine r_getV rfl rfl fl_2_49 dX2_goTo_10 hd ?_
      refine r_icmp_ge 97 dX2_goTo_13 (by decide) (fun h13 => ?_) (fun h13 => absurd h13 (not_not_intro (Int32.le_refl _)))
      refine r_aload_n dX2_goTo_97 rfl ?_
      refine r_cVq (As := []) (c_X2_placeDays α _ _ hd hn7 hP g2) lk_2_86 rfl rfl (by decide) (by decide) rfl rfl (Nat.le_of_ble_eq_true rfl) dX2_goTo_98 (fun I98 L98 q98 => ?_)
      obtain ⟨rfl, y98, z98⟩ := q98
      refine r_vret rfl dX2_goTo_101 ?_
      exact ⟨rfl, rfl, fun a a1 a2 => (y98 a a2).trans (g1 a a1), fun k hk => by rw [y98 58 (by decide)]; exact g2 k hk, z98⟩
    | succ m ih =>
      intro left met k hk hg I1 g1 g2 g3
      have hd : I1 57 0 = nI n := by rw [g1 57 (by decide)]; exact hn
      have efm : fac (m + 1) / (m + 1) = fac m := Nat.mul_div_cancel (fac m) (Nat.succ_pos m)
      unfold rwGd at hg
      simp only [Bool.and_eq_true] at hg
      rw [efm] at hg
      obtain ⟨q1, q2, q3, q4, q5, q6⟩ := hg
      have q2 := Nat.le_of_ble_eq_true q2
      have q3 := Nat.le_of_ble_eq_true q3
      have hfp := fac_pos m
      have hfl : fac m ≤ 5040 := fac_le (by omega)
      have hlm : left % fac m < fac m := Nat.mod_lt _ hfp
      have enk : nI n - 1 - nI k = nI m := by
        obtain ⟨x, rfl⟩ : ∃ x, n = x + 1 := ⟨n - 1, by omega⟩
        rw [nI_pred, pk_sub (by omega)]
        congr 1
        omega
      have e0 : prm n r k = rwI met 8 (left / fac m) 0 := by
        refine (g3 0 (by omega)).symm.trans ?_
        show rwI met 8 (left / (fac (m + 1) / (m + 1))) 0 = _
        rw [efm]
      have hTn : rwI met 8 (left / fac m) 0 < n := by rw [← e0]; exact hP.1 k (by omega)
      have found : ∀ d, d = rwI met 8 (left / fac m) 0 → Rn fd_SX α mX2_goTo 61 [(6, .int (nI d)), (4, .int (nI k)), (3, .int (nI met)), (2, .int (nI (left % fac m))), (0, .ref (α 57))] [] I1 L (fd_vp (goT I L n (prm n r))) := by
        intro d hd2
        refine r_aload_n dX2_goTo_61 rfl ?_
        refine r_getR rfl rfl fl_2_9 dX2_goTo_62 ?_
        refine r_iload dX2_goTo_65 rfl ?_
        refine r_iload dX2_goTo_67 rfl ?_
        refine r_iastN rfl dX2_goTo_69 (by omega) (by omega) ?_
        refine r_iload_n dX2_goTo_70 rfl ?_
        refine r_iconst (v := 1) dX2_goTo_71 rfl ?_
        refine r_iload dX2_goTo_72 rfl ?_
        refine r_ishl dX2_goTo_74 ?_
        rw [nI_shl1 (by omega)]
        refine r_ior dX2_goTo_75 ?_
        rw [nI_or]
        refine r_istore_n (lv' := [(3, _), (6, _), (4, _), (2, _), (0, _)]) dX2_goTo_76 (Nat.le_of_ble_eq_true rfl) rfl ?_
        refine r_goto (tgt := 91) dX2_goTo_77 (by decide) ?_
        refine r_iinc (v := _ + 1) (lv' := [(4, _), (3, _), (6, _), (2, _), (0, _)]) dX2_goTo_91 rfl rfl (Nat.le_of_ble_eq_true rfl) rfl ?_
        refine r_goto (tgt := 7) dX2_goTo_94 (by decide) ?_
        rw [nI_1]
        refine r_keep [4, 3, 2, 0] rfl ?_
        refine ih _ _ (k + 1) (by omega) (by rw [hd2]; exact q6) _ (fun a ha => by rw [fd_up_cell ha]; exact g1 a ha) (fun i hi => ?_) (fun i hi => ?_)
        · rw [fd_up_at]
          split
          · next e => rw [e, e0, hd2]
          · exact g2 i (by omega)
        · have := g3 (i + 1) (by omega)
          rw [show k + (i + 1) = k + 1 + i by omega] at this
          rw [← this, hd2]
          show _ = gtL (rwP m (left % (fac (m + 1) / (m + 1))) (fac (m + 1) / (m + 1)) (met ||| 2 ^ rwI met 8 (left / (fac (m + 1) / (m + 1))) 0)) i
          rw [efm]
      have inner : ∀ f s d, s * fac m + left % fac m ≤ left → rwG met f s d = true → rwI met f s d = rwI met 8 (left / fac m) 0 → Rn fd_SX α mX2_goTo 34 [(6, .int (nI d)), (5, .int (nI (fac m))), (4, .int (nI k)), (3, .int (nI met)), (2, .int (nI (s * fac m + left % fac m))), (0, .ref (α 57))] [] I1 L (fd_vp (goT I L n (prm n r))) := by
        intro f
        induction f with
        | zero => intro s d _ h; cases h
        | succ f ihf =>
          intro s d hs hg2 he
          have hdn : d < n := Nat.lt_of_le_of_lt (rwI_ge (f + 1) s d) (by rw [he]; exact hTn)
          unfold rwG at hg2
          rw [Bool.and_eq_true] at hg2
          obtain ⟨w1, w2⟩ := hg2
          have hm : met < 2 ^ 31 := by omega
          by_cases hb : met / 2 ^ d % 2 = 1
          · have eb : Nat.beq (met / 2 ^ d % 2) 1 = true := by rw [hb]; rfl
            rw [eb] at w2
            have he2 : rwI met f s (d + 1) = rwI met 8 (left / fac m) 0 := by
              rw [← he]
              show _ = bif _ then _ else _
              rw [eb]
              rfl
            refine r_iload dX2_goTo_34 rfl ?_
            refine r_aload_n dX2_goTo_36 rfl ?_
            refine r_getV rfl rfl fl_2_49 dX2_goTo_37 hd ?_
            refine r_icmp_ge 91 dX2_goTo_40 (by decide) (fun h40 => absurd h40 (fun q => absurd ((nI_leI (by omega) (by omega)).mp q) (by omega))) (fun h40 => ?_)
            refine r_iload_n dX2_goTo_43 rfl ?_
            refine r_iload dX2_goTo_44 rfl ?_
            refine r_ishr dX2_goTo_46 ?_
            rw [nI_shr hm (by omega)]
            refine r_iconst (v := 1) dX2_goTo_47 rfl ?_
            refine r_iand dX2_goTo_48 ?_
            rw [nI_and1]
            refine r_if_eq 55 dX2_goTo_49 (by decide) (fun h49 => absurd h49 (by rw [hb]; decide)) (fun h49 => ?_)
            refine r_goto (tgt := 85) dX2_goTo_52 (by decide) ?_
            refine r_iinc (v := _ + 1) (lv' := [(6, _), (5, _), (4, _), (3, _), (2, _), (0, _)]) dX2_goTo_85 rfl rfl (Nat.le_of_ble_eq_true rfl) rfl ?_
            refine r_goto (tgt := 34) dX2_goTo_88 (by decide) ?_
            rw [nI_1]
            exact r_keep [6, 5, 4, 3, 2, 0] rfl (ihf s (d + 1) hs w2 he2)
          · have eb : Nat.beq (met / 2 ^ d % 2) 1 = false := by
              rw [show met / 2 ^ d % 2 = 0 by omega]
              rfl
            have hb0 : met / 2 ^ d % 2 = 0 := by omega
            rw [eb] at w2
            by_cases hk0 : s = 0
            · subst hk0
              have he2 : rwI met (f + 1) 0 d = d := by
                show (bif _ then _ else _) = _
                rw [eb]
                rfl
              rw [he2] at he
              rw [Nat.zero_mul, Nat.zero_add]
              refine r_iload dX2_goTo_34 rfl ?_
              refine r_aload_n dX2_goTo_36 rfl ?_
              refine r_getV rfl rfl fl_2_49 dX2_goTo_37 hd ?_
              refine r_icmp_ge 91 dX2_goTo_40 (by decide) (fun h40 => absurd h40 (fun q => absurd ((nI_leI (by omega) (by omega)).mp q) (by omega))) (fun h40 => ?_)
              refine r_iload_n dX2_goTo_43 rfl ?_
              refine r_iload dX2_goTo_44 rfl ?_
              refine r_ishr dX2_goTo_46 ?_
              rw [nI_shr hm (by omega)]
              refine r_iconst (v := 1) dX2_goTo_47 rfl ?_
              refine r_iand dX2_goTo_48 ?_
              rw [nI_and1]
              refine r_if_eq 55 dX2_goTo_49 (by decide) (fun h49 => ?_) (fun h49 => absurd h49 (not_not_intro (by rw [hb0]; rfl)))
              refine r_iload_n dX2_goTo_55 rfl ?_
              refine r_iload dX2_goTo_56 rfl ?_
              refine r_icmp_ge 80 dX2_goTo_58 (by decide) (fun h58 => absurd h58 (fun q => absurd ((nI_leI (by omega) (by omega)).mp q) (by omega))) (fun h58 => ?_)
              exact r_keep [6, 4, 3, 2, 0] rfl (found d he)
            · obtain ⟨s2, rfl⟩ : ∃ s2, s = s2 + 1 := ⟨s - 1, by omega⟩
              have he2 : rwI met f s2 (d + 1) = rwI met 8 (left / fac m) 0 := by
                rw [← he]
                show _ = bif _ then _ else _
                rw [eb]
                rfl
              have es : (s2 + 1) * fac m + left % fac m = s2 * fac m + left % fac m + fac m := by rw [Nat.succ_mul]; omega
              rw [es] at hs ⊢
              refine r_iload dX2_goTo_34 rfl ?_
              refine r_aload_n dX2_goTo_36 rfl ?_
              refine r_getV rfl rfl fl_2_49 dX2_goTo_37 hd ?_
              refine r_icmp_ge 91 dX2_goTo_40 (by decide) (fun h40 => absurd h40 (fun q => absurd ((nI_leI (by omega) (by omega)).mp q) (by omega))) (fun h40 => ?_)
              refine r_iload_n dX2_goTo_43 rfl ?_
              refine r_iload dX2_goTo_44 rfl ?_
              refine r_ishr dX2_goTo_46 ?_
              rw [nI_shr hm (by omega)]
              refine r_iconst (v := 1) dX2_goTo_47 rfl ?_
              refine r_iand dX2_goTo_48 ?_
              rw [nI_and1]
              refine r_if_eq 55 dX2_goTo_49 (by decide) (fun h49 => ?_) (fun h49 => absurd h49 (not_not_intro (by rw [hb0]; rfl)))
              refine r_iload_n dX2_goTo_55 rfl ?_
              refine r_iload dX2_goTo_56 rfl ?_
              refine r_icmp_ge 80 dX2_goTo_58 (by decide) (fun h58 => ?_) (fun h58 => absurd h58 (not_not_intro ((nI_leI (by omega) (by omega)).mpr (by omega))))
              refine r_iload_n dX2_goTo_80 rfl ?_
              refine r_iload dX2_goTo_81 rfl ?_
              refine r_isub dX2_goTo_83 ?_
              rw [pk_sub (by omega), Nat.add_sub_cancel]
              refine r_istore_n (lv' := [(2, _), (6, _), (5, _), (4, _), (3, _), (0, _)]) dX2_goTo_84 (Nat.le_of_ble_eq_true rfl) rfl ?_
              refine r_iinc (v := _ + 1) (lv' := [(6, _), (2, _), (5, _), (4, _), (3, _), (0, _)]) dX2_goTo_85 rfl rfl (Nat.le_of_ble_eq_true rfl) rfl ?_
              refine r_goto (tgt := 34) dX2_goTo_88 (by decide) ?_
              rw [nI_1]
              exact r_keep [6, 5, 4, 3, 2, 0] rfl (ihf s2 (d + 1) (by omega) w2 he2)
      refine r_iload dX2_goTo_7 rfl ?_
      refine r_aload_n dX2_goTo_9 rfl ?_
      refine r_getV rfl rfl fl_2_49 dX2_goTo_10 hd ?_
      refine r_icmp_ge 97 dX2_goTo_13 (by decide) (fun h13 => absurd h13 (fun q => absurd ((nI_leI (by omega) (by omega)).mp q) (by omega))) (fun h13 => ?_)
      refine r_orders rfl (by decide) dX2_goTo_16 ?_
      refine r_aload_n dX2_goTo_19 rfl ?_
      refine r_getV rfl rfl fl_2_49 dX2_goTo_20 hd ?_
      refine r_iconst (v := 1) dX2_goTo_23 rfl ?_
      refine r_isub dX2_goTo_24 ?_
      refine r_iload dX2_goTo_25 rfl ?_
      refine r_isub dX2_goTo_27 ?_
      rw [enk]
      refine r_oald dX2_goTo_28 (dayP_in (nI_dayP (by omega) (by decide))) ?_
      rw [nI_clamp (by omega), fac_getD (by omega)]
      refine r_istore (lv' := [(5, _), (4, _), (3, _), (2, _), (0, _)]) dX2_goTo_29 (Nat.le_of_ble_eq_true rfl) rfl ?_
      refine r_iconst (v := 0) dX2_goTo_31 rfl ?_
      refine r_istore (lv' := [(6, _), (5, _), (4, _), (3, _), (2, _), (0, _)]) dX2_goTo_32 (Nat.le_of_ble_eq_true rfl) rfl ?_
      refine r_keep [6, 5, 4, 3, 2, 0] rfl ?_
      have eqm : left / fac m * fac m + left % fac m = left := by rw [Nat.mul_comm]; exact Nat.div_add_mod _ _
      have key := inner 8 (left / fac m) 0 (by rw [eqm]; exact Nat.le_refl _) q5 rfl
      rw [eqm] at key
      exact key
  refine r_iload_n dX2_goTo_0 rfl ?_
  refine r_istore_n (lv' := [(2, _), (0, _), (1, _)]) dX2_goTo_1 (Nat.le_of_ble_eq_true rfl) rfl ?_
  refine r_iconst (v := 0) dX2_goTo_2 rfl ?_
  refine r_istore_n (lv' := [(3, _), (2, _), (0, _), (1, _)]) dX2_goTo_3 (Nat.le_of_ble_eq_true rfl) rfl ?_
  refine r_iconst (v := 0) dX2_goTo_4 rfl ?_
  refine r_istore (lv' := [(4, _), (3, _), (2, _), (0, _), (1, _)]) dX2_goTo_5 (Nat.le_of_ble_eq_true rfl) rfl ?_
  exact r_keep [4, 3, 2, 0] rfl (loop n r 0 0 (by omega) (gdB hn7 hr).1 I (fun _ _ => rfl) (fun i hi => by omega) (fun i hi => by rw [Nat.zero_add]; rfl))
