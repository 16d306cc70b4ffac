/-! the class: images, status, part, undo -/
theorem xSt.copy {b c : Nat} {s : pS} {I I' : fdI} (hs : stOk s) (h : xSt c s I) (e : cpR b c 11 I I') : xSt b s I' := by
  obtain ⟨V, n, nn, np, nt, rk, ot, ly⟩ := s
  obtain ⟨a0, a1, a2, a3, a4, a5, a6, a7⟩ := h
  obtain ⟨e1, e2, e3⟩ := e
  have hn7 := hs.1.2
  have g := hs.2
  refine ⟨(e2 0 (by decide)).trans a0, (e2 1 (by decide)).trans a1, (e2 2 (by decide)).trans a2, (e2 3 (by decide)).trans a3, (e2 4 (by decide)).trans a4, (e2 5 (by decide)).trans a5, (e2 6 (by decide)).trans a6, fun d hd => ?_, fun k hk => ?_, fun k hk => ?_, fun k hk => ?_⟩
  · obtain ⟨g1, g2, g3, g4, g5⟩ := a7.1 d hd
    have h7 : d < 7 := by omega
    exact ⟨(e3 1 (by decide) (by decide) d h7).trans g1, (e3 2 (by decide) (by decide) d h7).trans g2, (e3 3 (by decide) (by decide) d h7).trans g3, (e3 4 (by decide) (by decide) d h7).trans g4, (e3 5 (by decide) (by decide) d h7).trans g5⟩
  · have h6 : k < 6 := by have := g.1; omega
    exact ⟨(e3 6 (by decide) (by decide) k h6).trans (a7.2.1 k hk).1, (e3 7 (by decide) (by decide) k h6).trans (a7.2.1 k hk).2⟩
  · have h6 : k < 6 := by have := g.2.1; omega
    exact ⟨(e3 8 (by decide) (by decide) k h6).trans (a7.2.2.1 k hk).1, (e3 9 (by decide) (by decide) k h6).trans (a7.2.2.1 k hk).2⟩
  · have h3 : k < 3 := by have := g.2.2.1; omega
    exact (e3 10 (by decide) (by decide) k h3).trans (a7.2.2.2 k hk)
theorem c_X10_image (α : Nat → Nat) (I : fdI) (L : fdL) (i : Int32) : Con fd_SX α yX10_image mX10_image [.ref (α 0), .int i] I L (fd_ip (fun v I' L' => L' = L ∧ (dayP i 2 → v = .int 1 ∧ ∃ J, cpR (30 + 11 * i.toNatClampNeg) 8 11 I J ∧ I' = fd_up J 53 i.toNatClampNeg 1) ∧ (¬ dayP i 2 → v = .int (-2) ∧ I' = xBad I))) := by
  refine Con.of (by decide) rfl (Nat.le_of_ble_eq_true rfl) ?_
  by_cases hok : dayP i 2
  · obtain ⟨j, hj, rfl⟩ := dayP_nI hok
    have g0 := dayP_n0 hok
    have g1 := dayP_lt (by decide) hok
    rw [nI_clamp (by omega)]
    rcases (show j = 0 ∨ j = 1 by omega) with rfl | rfl
    · refine r_iload_n dX10_image_0 rfl ?_
      refine r_if_lt 9 dX10_image_1 (by decide) (fun h1 => absurd h1 g0) (fun h1 => ?_)
      refine r_iload_n dX10_image_4 rfl ?_
      refine r_iconst (v := 2) dX10_image_5 rfl ?_
      refine r_icmp_lt 16 dX10_image_6 (by decide) (fun h6 => ?_) (fun h6 => absurd h6 (not_not_intro g1))
      refine r_aload_n dX10_image_16 rfl ?_
      refine r_getR rfl rfl fl_10_25 dX10_image_17 ?_
      refine r_iload_n dX10_image_20 rfl ?_
      refine r_aald rfl (fun _ => rfl) dX10_image_21 (vp_in_iff.mpr (by decide)) rfl ?_
      refine r_aload_n dX10_image_22 rfl ?_
      refine r_getR rfl rfl fl_10_18 dX10_image_23 ?_
      refine r_cVq (As := [_]) (c_X5_copy_30_8 α _ _) lk_10_131 rfl rfl (by decide) (by decide) rfl rfl (Nat.le_of_ble_eq_true rfl) dX10_image_26 (fun I26 L26 q26 => ?_)
      obtain ⟨rfl, y26⟩ := q26
      refine r_aload_n dX10_image_29 rfl ?_
      refine r_getR rfl rfl fl_10_29 dX10_image_30 ?_
      refine r_iload_n dX10_image_33 rfl ?_
      refine r_iconst (v := 1) dX10_image_34 rfl ?_
      refine r_zastN rfl (Or.inr rfl) dX10_image_35 (by decide) (by omega) ?_
      refine r_iconst (v := 1) dX10_image_36 rfl ?_
      refine r_iret rfl dX10_image_37 ?_
      exact ⟨_, rfl, rfl, fun _ => ⟨rfl, _, y26, rfl⟩, fun q => absurd hok q⟩
    · refine r_iload_n dX10_image_0 rfl ?_
      refine r_if_lt 9 dX10_image_1 (by decide) (fun h1 => absurd h1 g0) (fun h1 => ?_)
      refine r_iload_n dX10_image_4 rfl ?_
      refine r_iconst (v := 2) dX10_image_5 rfl ?_
      refine r_icmp_lt 16 dX10_image_6 (by decide) (fun h6 => ?_) (fun h6 => absurd h6 (not_not_intro g1))
      refine r_aload_n dX10_image_16 rfl ?_
      refine r_getR rfl rfl fl_10_25 dX10_image_17 ?_
      refine r_iload_n dX10_image_20 rfl ?_
      refine r_aald rfl (fun _ => rfl) dX10_image_21 (vp_in_iff.mpr (by decide)) rfl ?_
      refine r_aload_n dX10_image_22 rfl ?_
      refine r_getR rfl rfl fl_10_18 dX10_image_23 ?_
      refine r_cVq (As := [_]) (c_X5_copy_41_8 α _ _) lk_10_131 rfl rfl (by decide) (by decide) rfl rfl (Nat.le_of_ble_eq_true rfl) dX10_image_26 (fun I26 L26 q26 => ?_)
      obtain ⟨rfl, y26⟩ := q26
      refine r_aload_n dX10_image_29 rfl ?_
      refine r_getR rfl rfl fl_10_29 dX10_image_30 ?_
      refine r_iload_n dX10_image_33 rfl ?_
      refine r_iconst (v := 1) dX10_image_34 rfl ?_
      refine r_zastN rfl (Or.inr rfl) dX10_image_35 (by decide) (by omega) ?_
      refine r_iconst (v := 1) dX10_image_36 rfl ?_
      refine r_iret rfl dX10_image_37 ?_
      exact ⟨_, rfl, rfl, fun _ => ⟨rfl, _, y26, rfl⟩, fun q => absurd hok q⟩
  · refine r_iload_n dX10_image_0 rfl ?_
    refine r_if_lt 9 dX10_image_1 (by decide) (fun h1 => ?_) (fun h1 => ?_)
    · refine r_aload_n dX10_image_9 rfl ?_
      refine r_bipush (v := (-2)) dX10_image_10 rfl ?_
      refine r_cVr (As := [_]) (c_X10_counted α _ _ _) lk_10_91 rfl rfl (by decide) (by decide) rfl rfl (Nat.le_of_ble_eq_true rfl) dX10_image_12 ?_
      refine r_iret rfl dX10_image_15 ?_
      exact ⟨_, rfl, rfl, fun q => absurd q hok, fun _ => ⟨rfl, rfl⟩⟩
    · refine r_iload_n dX10_image_4 rfl ?_
      refine r_iconst (v := 2) dX10_image_5 rfl ?_
      refine r_icmp_lt 16 dX10_image_6 (by decide) (fun h6 => absurd h6 (fun q => hok (dayP_2 (n := 2) (by decide) h1 q))) (fun h6 => ?_)
      refine r_aload_n dX10_image_9 rfl ?_
      refine r_bipush (v := (-2)) dX10_image_10 rfl ?_
      refine r_cVr (As := [_]) (c_X10_counted α _ _ _) lk_10_91 rfl rfl (by decide) (by decide) rfl rfl (Nat.le_of_ble_eq_true rfl) dX10_image_12 ?_
      refine r_iret rfl dX10_image_15 ?_
      exact ⟨_, rfl, rfl, fun q => absurd q hok, fun _ => ⟨rfl, rfl⟩⟩
theorem c_X10_from (α : Nat → Nat) (I : fdI) (L : fdL) (i : Int32) : Con fd_SX α yX10_from mX10_from [.ref (α 0), .int i] I L (fd_ip (fun v I' L' => L' = L ∧ (dayP i 2 → (I 53 i.toNatClampNeg = 0 → v = .int (-3) ∧ I' = xNo I) ∧ (¬ I 53 i.toNatClampNeg = 0 → v = .int 1 ∧ cpR 8 (30 + 11 * i.toNatClampNeg) 11 I I')) ∧ (¬ dayP i 2 → v = .int (-2) ∧ I' = xBad I))) := by
  refine Con.of (by decide) rfl (Nat.le_of_ble_eq_true rfl) ?_
  by_cases hok : dayP i 2
  · obtain ⟨j, hj, rfl⟩ := dayP_nI hok
    have g0 := dayP_n0 hok
    have g1 := dayP_lt (by decide) hok
    rw [nI_clamp (by omega)]
    by_cases hz : I 53 j = 0
    · refine r_iload_n dX10_from_0 rfl ?_
      refine r_if_lt 9 dX10_from_1 (by decide) (fun h1 => absurd h1 g0) (fun h1 => ?_)
      refine r_iload_n dX10_from_4 rfl ?_
      refine r_iconst (v := 2) dX10_from_5 rfl ?_
      refine r_icmp_lt 16 dX10_from_6 (by decide) (fun h6 => ?_) (fun h6 => absurd h6 (not_not_intro g1))
      refine r_aload_n dX10_from_16 rfl ?_
      refine r_getR rfl rfl fl_10_29 dX10_from_17 ?_
      refine r_iload_n dX10_from_20 rfl ?_
      refine r_zaldN rfl dX10_from_21 hj (by omega) rfl ?_
      refine r_if_ne 32 dX10_from_22 (by decide) (fun h22 => absurd h22 (not_not_intro hz)) (fun h22 => ?_)
      refine r_aload_n dX10_from_25 rfl ?_
      refine r_bipush (v := (-3)) dX10_from_26 rfl ?_
      refine r_cVr (As := [_]) (c_X10_counted α _ _ _) lk_10_91 rfl rfl (by decide) (by decide) rfl rfl (Nat.le_of_ble_eq_true rfl) dX10_from_28 ?_
      refine r_iret rfl dX10_from_31 ?_
      exact ⟨_, rfl, rfl, fun _ => ⟨fun _ => ⟨rfl, rfl⟩, fun q => absurd hz q⟩, fun q => absurd hok q⟩
    · rcases (show j = 0 ∨ j = 1 by omega) with rfl | rfl
      · refine r_iload_n dX10_from_0 rfl ?_
        refine r_if_lt 9 dX10_from_1 (by decide) (fun h1 => absurd h1 g0) (fun h1 => ?_)
        refine r_iload_n dX10_from_4 rfl ?_
        refine r_iconst (v := 2) dX10_from_5 rfl ?_
        refine r_icmp_lt 16 dX10_from_6 (by decide) (fun h6 => ?_) (fun h6 => absurd h6 (not_not_intro g1))
        refine r_aload_n dX10_from_16 rfl ?_
        refine r_getR rfl rfl fl_10_29 dX10_from_17 ?_
        refine r_iload_n dX10_from_20 rfl ?_
        refine r_zaldN rfl dX10_from_21 hj (by omega) rfl ?_
        refine r_if_ne 32 dX10_from_22 (by decide) (fun h22 => ?_) (fun h22 => absurd h22 hz)
        refine r_aload_n dX10_from_32 rfl ?_
        refine r_getR rfl rfl fl_10_18 dX10_from_33 ?_
        refine r_aload_n dX10_from_36 rfl ?_
        refine r_getR rfl rfl fl_10_25 dX10_from_37 ?_
        refine r_iload_n dX10_from_40 rfl ?_
        refine r_aald rfl (fun _ => rfl) dX10_from_41 (vp_in_iff.mpr (by decide)) rfl ?_
        refine r_cVq (As := [_]) (c_X5_copy_8_30 α _ _) lk_10_131 rfl rfl (by decide) (by decide) rfl rfl (Nat.le_of_ble_eq_true rfl) dX10_from_42 (fun I42 L42 q42 => ?_)
        obtain ⟨rfl, y42⟩ := q42
        refine r_iconst (v := 1) dX10_from_45 rfl ?_
        refine r_iret rfl dX10_from_46 ?_
        exact ⟨_, rfl, rfl, fun _ => ⟨fun q => absurd q hz, fun _ => ⟨rfl, y42⟩⟩, fun q => absurd hok q⟩
      · refine r_iload_n dX10_from_0 rfl ?_
        refine r_if_lt 9 dX10_from_1 (by decide) (fun h1 => absurd h1 g0) (fun h1 => ?_)
        refine r_iload_n dX10_from_4 rfl ?_
        refine r_iconst (v := 2) dX10_from_5 rfl ?_
        refine r_icmp_lt 16 dX10_from_6 (by decide) (fun h6 => ?_) (fun h6 => absurd h6 (not_not_intro g1))
        refine r_aload_n dX10_from_16 rfl ?_
        refine r_getR rfl rfl fl_10_29 dX10_from_17 ?_
        refine r_iload_n dX10_from_20 rfl ?_
        refine r_zaldN rfl dX10_from_21 hj (by omega) rfl ?_
        refine r_if_ne 32 dX10_from_22 (by decide) (fun h22 => ?_) (fun h22 => absurd h22 hz)
        refine r_aload_n dX10_from_32 rfl ?_
        refine r_getR rfl rfl fl_10_18 dX10_from_33 ?_
        refine r_aload_n dX10_from_36 rfl ?_
        refine r_getR rfl rfl fl_10_25 dX10_from_37 ?_
        refine r_iload_n dX10_from_40 rfl ?_
        refine r_aald rfl (fun _ => rfl) dX10_from_41 (vp_in_iff.mpr (by decide)) rfl ?_
        refine r_cVq (As := [_]) (c_X5_copy_8_41 α _ _) lk_10_131 rfl rfl (by decide) (by decide) rfl rfl (Nat.le_of_ble_eq_true rfl) dX10_from_42 (fun I42 L42 q42 => ?_)
        obtain ⟨rfl, y42⟩ := q42
        refine r_iconst (v := 1) dX10_from_45 rfl ?_
        refine r_iret rfl dX10_from_46 ?_
        exact ⟨_, rfl, rfl, fun _ => ⟨fun q => absurd q hz, fun _ => ⟨rfl, y42⟩⟩, fun q => absurd hok q⟩
  · refine r_iload_n dX10_from_0 rfl ?_
    refine r_if_lt 9 dX10_from_1 (by decide) (fun h1 => ?_) (fun h1 => ?_)
    · refine r_aload_n dX10_from_9 rfl ?_
      refine r_bipush (v := (-2)) dX10_from_10 rfl ?_
      refine r_cVr (As := [_]) (c_X10_counted α _ _ _) lk_10_91 rfl rfl (by decide) (by decide) rfl rfl (Nat.le_of_ble_eq_true rfl) dX10_from_12 ?_
      refine r_iret rfl dX10_from_15 ?_
      exact ⟨_, rfl, rfl, fun q => absurd q hok, fun _ => ⟨rfl, rfl⟩⟩
    · refine r_iload_n dX10_from_4 rfl ?_
      refine r_iconst (v := 2) dX10_from_5 rfl ?_
      refine r_icmp_lt 16 dX10_from_6 (by decide) (fun h6 => absurd h6 (fun q => hok (dayP_2 (n := 2) (by decide) h1 q))) (fun h6 => ?_)
      refine r_aload_n dX10_from_9 rfl ?_
      refine r_bipush (v := (-2)) dX10_from_10 rfl ?_
      refine r_cVr (As := [_]) (c_X10_counted α _ _ _) lk_10_91 rfl rfl (by decide) (by decide) rfl rfl (Nat.le_of_ble_eq_true rfl) dX10_from_12 ?_
      refine r_iret rfl dX10_from_15 ?_
      exact ⟨_, rfl, rfl, fun q => absurd q hok, fun _ => ⟨rfl, rfl⟩⟩
