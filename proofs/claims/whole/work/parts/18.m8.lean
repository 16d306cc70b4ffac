/-! the model: all orders, one behind another -/
theorem c_isTold (V : pV) (α : Nat → Nat) (I : fdI) (L : fdL) {n nn np nt : Nat} {p : Nat → Nat} (h : mOk V I n nn np nt) (hw : ∀ d, d < n → I 16 d = nI (ps p n d)) (hp : isP p n) : Con fd_SM α yX11_isTold mX11_isTold [.ref (α 0)] I L (fd_is (some (.int (fd_b (tlB V n np p = true)))) I L) := by
  refine Con.of (by decide) rfl (Nat.le_of_ble_eq_true rfl) ?_
  obtain ⟨h1, h2, h3, h4, h5, h6, h7, h8, h9, h10⟩ := h
  have hps : ∀ d, d < n → ps p n d < n := fun d hd => (ps_lt hp hd).1
  have loop2 : ∀ k, k ≤ n → Rn fd_SM α mX11_isTold 55 [(2, .int (nI k)), (1, .int (fd_b ((anB (tlP V n p) np && anB (tlA V n p) k) = true))), (0, .ref (α 0))] [] I L (fd_is (some (.int (fd_b (tlB V n np p = true)))) I L) := by
    refine fd_down (fun k hk ih => ?_)
    have jn : ∀ v, v = fd_b ((anB (tlP V n p) np && anB (tlA V n p) (k + 1)) = true) → k < n → Rn fd_SM α mX11_isTold 97 [(2, .int (nI k)), (0, .ref (α 0))] [.int v] I L (fd_is (some (.int (fd_b (tlB V n np p = true)))) I L) := by
      intro v hv hkn
      subst hv
      refine r_istore_n (lv' := [(1, _), (2, _), (0, _)]) dX11_isTold_97 (Nat.le_of_ble_eq_true rfl) rfl ?_
      refine r_iinc (v := _ + 1) (lv' := [(2, _), (1, _), (0, _)]) dX11_isTold_98 rfl rfl (Nat.le_of_ble_eq_true rfl) rfl ?_
      refine r_goto (tgt := 55) dX11_isTold_101 (by decide) ?_
      rw [nI_1]
      exact r_keep [2, 1, 0] rfl (ih hkn)
    refine r_iload_n dX11_isTold_55 rfl ?_
    refine r_aload_n dX11_isTold_56 rfl ?_
    refine r_getV rfl rfl fl_11_93 dX11_isTold_57 h1 ?_
    refine r_icmp_ge 104 dX11_isTold_60 (by decide) (fun h60 => ?_) (fun h60 => ?_)
    · have hh := (nI_leI (by omega) (by omega)).mp h60
      have e : k = n := by omega
      subst e
      refine r_iload_n dX11_isTold_104 rfl ?_
      refine r_zret rfl (fd_b01 _) dX11_isTold_105 ?_
      exact fd_isI rfl rfl rfl
    · have hh : k < n := Nat.lt_of_not_le fun q => h60 ((nI_leI (by omega) (by omega)).mpr q)
      have ha : I 5 k = V 4 k := (h9.1 k hh).2.2.2.1
      refine r_iload_n dX11_isTold_63 rfl ?_
      refine r_if_eq 96 dX11_isTold_64 (by decide) (fun h64 => ?_) (fun h64 => ?_)
      · have z := fd_b0.mp h64
        have ev : (0 : Int32) = fd_b ((anB (tlP V n p) np && anB (tlA V n p) (k + 1)) = true) := (fd_b_f (fun q => z (by simp only [anB, Bool.and_eq_true] at q ⊢; exact ⟨q.1, q.2.1⟩))).symm
        refine r_iconst (v := 0) dX11_isTold_96 rfl ?_
        exact r_keep [2, 0] rfl (jn _ ev hh)
      · have z := fd_bn.mp h64
        refine r_aload_n dX11_isTold_67 rfl ?_
        refine r_getR rfl rfl fl_11_22 dX11_isTold_68 ?_
        refine r_iload_n dX11_isTold_71 rfl ?_
        refine r_ialdN rfl dX11_isTold_72 (by omega) (by omega) ha ?_
        refine r_iconst (v := (-1)) dX11_isTold_73 rfl ?_
        refine r_icmp_eq 92 dX11_isTold_74 (by decide) (fun h74 => ?_) (fun h74 => ?_)
        · have ev : (1 : Int32) = fd_b ((anB (tlP V n p) np && anB (tlA V n p) (k + 1)) = true) := (fd_b_t (by simp only [anB, Bool.and_eq_true] at z ⊢; exact ⟨z.1, z.2, by simp [tlA, h74]⟩)).symm
          refine r_iconst (v := 1) dX11_isTold_92 rfl ?_
          refine r_goto (tgt := 97) dX11_isTold_93 (by decide) ?_
          exact r_keep [2, 0] rfl (jn _ ev hh)
        · refine r_aload_n dX11_isTold_77 rfl ?_
          refine r_getR rfl rfl fl_11_22 dX11_isTold_78 ?_
          refine r_iload_n dX11_isTold_81 rfl ?_
          refine r_ialdN rfl dX11_isTold_82 (by omega) (by omega) ha ?_
          refine r_aload_n dX11_isTold_83 rfl ?_
          refine r_getR rfl rfl fl_11_55 dX11_isTold_84 ?_
          refine r_iload_n dX11_isTold_87 rfl ?_
          refine r_ialdN rfl dX11_isTold_88 (by omega) (by omega) (hw k hh) ?_
          refine r_icmp_ne 96 dX11_isTold_89 (by decide) (fun h89 => ?_) (fun h89 => ?_)
          · have ev : (0 : Int32) = fd_b ((anB (tlP V n p) np && anB (tlA V n p) (k + 1)) = true) := (fd_b_f (fun q => by simp only [anB, Bool.and_eq_true] at q; have q2 := q.2.2; simp [tlA, h74, h89] at q2)).symm
            refine r_iconst (v := 0) dX11_isTold_96 rfl ?_
            exact r_keep [2, 0] rfl (jn _ ev hh)
          · have ev : (1 : Int32) = fd_b ((anB (tlP V n p) np && anB (tlA V n p) (k + 1)) = true) := (fd_b_t (by simp only [anB, Bool.and_eq_true] at z ⊢; exact ⟨z.1, z.2, by simp [tlA, h89]⟩)).symm
            refine r_iconst (v := 1) dX11_isTold_92 rfl ?_
            refine r_goto (tgt := 97) dX11_isTold_93 (by decide) ?_
            exact r_keep [2, 0] rfl (jn _ ev hh)
  have loop1 : ∀ k, k ≤ np → Rn fd_SM α mX11_isTold 4 [(2, .int (nI k)), (1, .int (fd_b (anB (tlP V n p) k = true))), (0, .ref (α 0))] [] I L (fd_is (some (.int (fd_b (tlB V n np p = true)))) I L) := by
    refine fd_down (fun k hk ih => ?_)
    have jn : ∀ v, v = fd_b (anB (tlP V n p) (k + 1) = true) → k < np → Rn fd_SM α mX11_isTold 46 [(2, .int (nI k)), (0, .ref (α 0))] [.int v] I L (fd_is (some (.int (fd_b (tlB V n np p = true)))) I L) := by
      intro v hv hkn
      subst hv
      refine r_istore_n (lv' := [(1, _), (2, _), (0, _)]) dX11_isTold_46 (Nat.le_of_ble_eq_true rfl) rfl ?_
      refine r_iinc (v := _ + 1) (lv' := [(2, _), (1, _), (0, _)]) dX11_isTold_47 rfl rfl (Nat.le_of_ble_eq_true rfl) rfl ?_
      refine r_goto (tgt := 4) dX11_isTold_50 (by decide) ?_
      rw [nI_1]
      exact r_keep [2, 1, 0] rfl (ih hkn)
    by_cases hx : k = np
    · subst hx
      refine r_iload_n dX11_isTold_4 rfl ?_
      refine r_aload_n dX11_isTold_5 rfl ?_
      refine r_getV rfl rfl fl_11_106 dX11_isTold_6 h5 ?_
      refine r_icmp_ge 53 dX11_isTold_9 (by decide) (fun h9 => ?_) (fun h9 => absurd h9 (not_not_intro (Int32.le_refl _)))
      refine r_iconst (v := 0) dX11_isTold_53 rfl ?_
      refine r_istore_n (lv' := [(2, _), (1, _), (0, _)]) dX11_isTold_54 (Nat.le_of_ble_eq_true rfl) rfl ?_
      refine r_keep [2, 1, 0] rfl ?_
      have := loop2 0 (by omega)
      rw [show (anB (tlP V n p) k && anB (tlA V n p) 0) = anB (tlP V n p) k from by simp [anB]] at this
      exact this
    · have hkn : k < np := by omega
      obtain ⟨a, ha, ea⟩ := dayP_nI (h10.2.2.1 k hkn).1
      obtain ⟨b, hb, eb⟩ := dayP_nI (h10.2.2.1 k hkn).2
      have ia : I 9 k = nI a := ((h9.2.2.1 k hkn).1).trans ea
      have ib : I 10 k = nI b := ((h9.2.2.1 k hkn).2).trans eb
      have hpa := hps a ha
      have hpb := hps b hb
      have ep : tlP V n p k = Nat.ble (ps p n a + 1) (ps p n b) := by unfold tlP; rw [ea, eb, nI_clamp (by omega), nI_clamp (by omega)]
      refine r_iload_n dX11_isTold_4 rfl ?_
      refine r_aload_n dX11_isTold_5 rfl ?_
      refine r_getV rfl rfl fl_11_106 dX11_isTold_6 h5 ?_
      refine r_icmp_ge 53 dX11_isTold_9 (by decide) (fun h9 => absurd h9 (fun q => absurd ((nI_leI (by omega) (by omega)).mp q) (by omega))) (fun h9 => ?_)
      refine r_iload_n dX11_isTold_12 rfl ?_
      refine r_if_eq 45 dX11_isTold_13 (by decide) (fun h13 => ?_) (fun h13 => ?_)
      · have z := fd_b0.mp h13
        have ev : (0 : Int32) = fd_b (anB (tlP V n p) (k + 1) = true) := (fd_b_f (fun q => z (by simp only [anB, Bool.and_eq_true] at q ⊢; exact q.1))).symm
        refine r_iconst (v := 0) dX11_isTold_45 rfl ?_
        exact r_keep [2, 0] rfl (jn _ ev hkn)
      · have z := fd_bn.mp h13
        refine r_aload_n dX11_isTold_16 rfl ?_
        refine r_getR rfl rfl fl_11_55 dX11_isTold_17 ?_
        refine r_aload_n dX11_isTold_20 rfl ?_
        refine r_getR rfl rfl fl_11_34 dX11_isTold_21 ?_
        refine r_iload_n dX11_isTold_24 rfl ?_
        refine r_ialdN rfl dX11_isTold_25 (by omega) (by omega) ia ?_
        refine r_ialdN rfl dX11_isTold_26 (by omega) (by omega) (hw a ha) ?_
        refine r_aload_n dX11_isTold_27 rfl ?_
        refine r_getR rfl rfl fl_11_55 dX11_isTold_28 ?_
        refine r_aload_n dX11_isTold_31 rfl ?_
        refine r_getR rfl rfl fl_11_37 dX11_isTold_32 ?_
        refine r_iload_n dX11_isTold_35 rfl ?_
        refine r_ialdN rfl dX11_isTold_36 (by omega) (by omega) ib ?_
        refine r_ialdN rfl dX11_isTold_37 (by omega) (by omega) (hw b hb) ?_
        refine r_icmp_ge 45 dX11_isTold_38 (by decide) (fun h38 => ?_) (fun h38 => ?_)
        · have z2 := (nI_leI (by omega) (by omega)).mp h38
          have ev : (0 : Int32) = fd_b (anB (tlP V n p) (k + 1) = true) := (fd_b_f (fun q => by simp only [anB, Bool.and_eq_true] at q; have q2 := q.2; rw [ep] at q2; have := Nat.le_of_ble_eq_true q2; omega)).symm
          refine r_iconst (v := 0) dX11_isTold_45 rfl ?_
          exact r_keep [2, 0] rfl (jn _ ev hkn)
        · have z2 : ps p n a < ps p n b := Nat.lt_of_not_le fun q => h38 ((nI_leI (by omega) (by omega)).mpr q)
          have ev : (1 : Int32) = fd_b (anB (tlP V n p) (k + 1) = true) := (fd_b_t (by simp only [anB, Bool.and_eq_true]; exact ⟨z, by rw [ep]; exact Nat.ble_eq_true_of_le z2⟩)).symm
          refine r_iconst (v := 1) dX11_isTold_41 rfl ?_
          refine r_goto (tgt := 46) dX11_isTold_42 (by decide) ?_
          exact r_keep [2, 0] rfl (jn _ ev hkn)
  refine r_iconst (v := 1) dX11_isTold_0 rfl ?_
  refine r_istore_n (lv' := [(1, _), (0, _)]) dX11_isTold_1 (Nat.le_of_ble_eq_true rfl) rfl ?_
  refine r_iconst (v := 0) dX11_isTold_2 rfl ?_
  refine r_istore_n (lv' := [(2, _), (1, _), (0, _)]) dX11_isTold_3 (Nat.le_of_ble_eq_true rfl) rfl ?_
  exact r_keep [2, 1, 0] rfl (loop1 0 (by omega))
def hgB (V : pV) (n nn np : Nat) (p : Nat → Nat) : Bool := Nat.beq (wlN V n nn p) n && tlB V n np p
theorem c_doesHang (V : pV) (α : Nat → Nat) (I : fdI) (L : fdL) {n nn np nt : Nat} {p : Nat → Nat} (h : mOk V I n nn np nt) (hl : lvV V I I n nn p) (hp : isP p n) : Con fd_SM α yX11_doesHang mX11_doesHang [.ref (α 0)] I L (fd_is (some (.int (fd_b (hgB V n nn np p = true)))) I L) := by
  refine Con.of (by decide) rfl (Nat.le_of_ble_eq_true rfl) ?_
  have hn7 := h.2.1
  have hwl : wlN V n nn p ≤ n := cnN_le _ _
  refine r_aload_n dX11_doesHang_0 rfl ?_
  refine r_getV rfl rfl fl_11_164 dX11_doesHang_1 hl.2 ?_
  refine r_aload_n dX11_doesHang_4 rfl ?_
  refine r_getV rfl rfl fl_11_93 dX11_doesHang_5 h.1 ?_
  refine r_icmp_ne 22 dX11_doesHang_8 (by decide) (fun h8 => ?_) (fun h8 => ?_)
  · have ev : fd_b (hgB V n nn np p = true) = 0 := fd_b_f (fun q => by unfold hgB at q; rw [Bool.and_eq_true] at q; exact h8 (by rw [Nat.eq_of_beq_eq_true q.1]))
    refine r_iconst (v := 0) dX11_doesHang_22 rfl ?_
    refine r_zret rfl (by decide) dX11_doesHang_23 ?_
    exact fd_isi ev.symm rfl rfl
  · have z : wlN V n nn p = n := (nI_eq (by omega) (by omega)).mp h8
    refine r_aload_n dX11_doesHang_11 rfl ?_
    refine r_cVr (As := []) (c_isTold V α _ _ h (fun d hd => (hl.1 d hd).1) hp) lk_11_174 rfl rfl (by decide) (by decide) rfl rfl (Nat.le_of_ble_eq_true rfl) dX11_doesHang_12 ?_
    refine r_if_eq 22 dX11_doesHang_15 (by decide) (fun h15 => ?_) (fun h15 => ?_)
    · have ev : fd_b (hgB V n nn np p = true) = 0 := fd_b_f (fun q => by unfold hgB at q; rw [Bool.and_eq_true] at q; exact fd_b0.mp h15 q.2)
      refine r_iconst (v := 0) dX11_doesHang_22 rfl ?_
      refine r_zret rfl (by decide) dX11_doesHang_23 ?_
      exact fd_isi ev.symm rfl rfl
    · have ev : fd_b (hgB V n nn np p = true) = 1 := fd_b_t (by unfold hgB; rw [z, Nat.beq_refl, fd_bn.mp h15]; rfl)
      refine r_iconst (v := 1) dX11_doesHang_18 rfl ?_
      refine r_goto (tgt := 23) dX11_doesHang_19 (by decide) ?_
      refine r_zret rfl (by decide) dX11_doesHang_23 ?_
      exact fd_isi ev.symm rfl rfl
/-- where the rows of the orders stand: ahead of the r-th -/
def trI (I J : fdI) (n r : Nat) : Prop := mSm I J ∧ (r < fac n → ∀ k, k < n → J 17 k = nI (prm n r k))
theorem c_starts (α : Nat → Nat) (I : fdI) (L : fdL) {n : Nat} (hn7 : 1 ≤ n ∧ n ≤ 7) : Con fd_SM α yX11_starts mX11_starts [.ref (α 17)] I L (fd_vp (fun I' L' => L' = L ∧ trI I I' n 0)) := by
  refine (c_X11_starts α I L 17 rfl).weaken ?_
  intro rv I' L' ⟨e, q1, q2, q3⟩
  exact ⟨e, q1, ⟨fun a a0 a1 a2 a3 a4 a5 a6 a7 => q2 a a5, fun j hj => by rw [q2 0 (by decide)]⟩, fun _ k hk => by rw [q3 k (by omega), prm_0 hn7 k hk]⟩
theorem c_turns (α : Nat → Nat) (I J : fdI) (L : fdL) {n r : Nat} (hn : J 0 1 = nI n) (hn7 : 1 ≤ n ∧ n ≤ 7) (hr : r < fac n) (ht : trI I J n r) : Con fd_SM α yX11_turns mX11_turns [.ref (α 0), .ref (α 17)] J L (fd_vp (fun I' L' => L' = L ∧ trI I I' n (r + 1) ∧ ∀ a, a ≠ 17 → I' a = J a)) := by
  refine (c_X11_turns α J L 17 rfl (by decide) hn hn7 (ht.2 hr) (prm_P hn7 hr).1).weaken ?_
  intro rv I' L' ⟨e, q1, q2, q3⟩
  exact ⟨e, q1, ⟨ht.1.trans ⟨fun a a0 a1 a2 a3 a4 a5 a6 a7 => q2 a a5, fun j hj => by rw [q2 0 (by decide)]⟩, fun hr1 k hk => by rw [q3 k hk, prm_next hn7 hr1 k hk]⟩, q2⟩
theorem trI.lives {I J K : fdI} {n r : Nat} (h : trI I J n r) (hs : mSm J K) (ht : K 17 = J 17) : trI I K n r := ⟨h.1.trans hs, fun hr k hk => by rw [ht]; exact h.2 hr k hk⟩
