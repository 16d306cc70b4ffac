def laP (V : pV) (n nn : Nat) (I : fdI) (L : fdL) (I' : fdI) (L' : fdL) : Prop := L' = L ∧ (∀ a, a < 57 ∨ a = 58 ∨ a = 59 ∨ 64 < a → I' a = I a) ∧ lkX V n nn I'
theorem noV_agr {V W : pV} {d : Int32} {k : Nat} (h : ∀ i, i < k → W 6 i = V 6 i ∧ W 7 i = V 7 i) : noV W d k = noV V d k := orN_congr fun i hi => by rw [(h i hi).1, (h i hi).2]
set_option maxHeartbeats 1000000 in
theorem c_X2_lookAt (s : pS) (α : Nat → Nat) (I : fdI) (L : fdL) (hs : stOk s) (hx : xSt 8 s I) : Con fd_SX α yX2_lookAt mX2_lookAt [.ref (α 57), .ref (α 8), .ref (α 1)] I L (fd_vp (laP s.1 s.2.1 s.2.2.1 I L)) := by
  refine Con.of (by decide) rfl (Nat.le_of_ble_eq_true rfl) ?_
  have hn7 := hs.n7
  have loop : ∀ k, k ≤ s.2.1 → ∀ I1 : fdI, (∀ a, a < 57 ∨ a = 58 ∨ a = 59 ∨ 64 < a → I1 a = I a) → I1 57 0 = nI s.2.1 → (∀ d, d < k → I1 60 d = fd_b (rdB s.1 d = true) ∧ I1 61 d = fd_b (wrB s.1 d = true) ∧ I1 62 d = lnV s.1 d ∧ I1 63 d = akV s.1 d ∧ I1 64 d = noN s.1 s.2.2.1 d) → Rn fd_SX α mX2_lookAt 10 [(3, .int (nI k)), (0, .ref (α 57)), (1, .ref (α 8)), (2, .ref (α 1))] [] I1 L (fd_vp (laP s.1 s.2.1 s.2.2.1 I L)) := by
    refine fd_down (fun k hk ih => ?_)
    intro I1 g1 g0 g2
    by_cases hx2 : k = s.2.1
    · rw [hx2] at g2
      refine r_iload_n dX2_lookAt_10 rfl ?_
      refine r_aload_n dX2_lookAt_11 rfl ?_
      refine r_getV rfl rfl fl_2_49 dX2_lookAt_12 g0 ?_
      refine r_icmp_ge 110 dX2_lookAt_15 (by decide) (fun h15 => ?_) (fun h15 => absurd h15 (not_not_intro (by rw [hx2]; exact Int32.le_refl _)))
      refine r_vret rfl dX2_lookAt_110 ?_
      exact ⟨rfl, rfl, g1, g0, g2⟩
    · have hk7 : k < s.2.1 := by omega
      have hx1 : xSt 8 s I1 := hx.same (fun a _ a2 => g1 a (by omega))
      obtain ⟨e1, e2, e3, -, -⟩ := hx1.kind hk7
      have enn := hx1.num.1
      have en : noV (fun c => I1 (8 + c)) (nI k) s.2.2.1 = noN s.1 s.2.2.1 k := noV_agr (fun i hi => hx1.agr.2.1 i hi)
      obtain ⟨κ, hκ, eκ⟩ := dayP_nI (hs.v.1 k hk7).1
      have ek : I1 9 k = nI κ := e1.trans eκ
      have nx : ∀ a b c d : Int32, a = fd_b (rdB s.1 k = true) → b = fd_b (wrB s.1 k = true) → c = lnV s.1 k → d = akV s.1 k → Rn fd_SX α mX2_lookAt 10 [(3, .int (nI (k + 1))), (0, .ref (α 57)), (1, .ref (α 8)), (2, .ref (α 1))] [] (fd_up (fd_up (fd_up (fd_up (fd_up I1 60 k a) 61 k b) 62 k c) 63 k d) 64 k (noN s.1 s.2.2.1 k)) L (fd_vp (laP s.1 s.2.1 s.2.2.1 I L)) := by
        intro a b c d ha hb hc hd
        refine ih hk7 _ (fun x hx => ?_) g0 (fun x hx => ?_)
        · rw [fd_up_cell (by omega), fd_up_cell (by omega), fd_up_cell (by omega), fd_up_cell (by omega), fd_up_cell (by omega)]; exact g1 x hx
        · by_cases q : x = k
          · subst q
            exact ⟨by rw [fd_up_ne (by decide), fd_up_ne (by decide), fd_up_ne (by decide), fd_up_ne (by decide), fd_up_same]; exact ha, by rw [fd_up_ne (by decide), fd_up_ne (by decide), fd_up_ne (by decide), fd_up_same]; exact hb, by rw [fd_up_ne (by decide), fd_up_ne (by decide), fd_up_same]; exact hc, by rw [fd_up_ne (by decide), fd_up_same]; exact hd, fd_up_same⟩
          · obtain ⟨q1, q2, q3, q4, q5⟩ := g2 x (by omega)
            exact ⟨by rw [fd_up_ne (by decide), fd_up_ne (by decide), fd_up_ne (by decide), fd_up_ne (by decide), fd_up_pl q]; exact q1, by rw [fd_up_ne (by decide), fd_up_ne (by decide), fd_up_ne (by decide), fd_up_pl q]; exact q2, by rw [fd_up_ne (by decide), fd_up_ne (by decide), fd_up_pl q]; exact q3, by rw [fd_up_ne (by decide), fd_up_pl q]; exact q4, (fd_up_pl q).trans q5⟩
      rcases (show κ = 0 ∨ κ = 1 ∨ κ = 2 ∨ κ = 3 ∨ κ = 4 ∨ κ = 5 by omega) with rfl | rfl | rfl | rfl | rfl | rfl
      · have d1 : rdB s.1 k = true := by unfold rdB; rw [eκ]; rfl
        have d2 : wrB s.1 k = true := by unfold wrB; rw [eκ]; rfl
        have d3 : lnV s.1 k = s.1 3 k := by unfold lnV; rw [eκ]; rfl
        have d4 : akV s.1 k = s.1 2 k := by unfold akV; rw [eκ]; rfl
        refine r_iload_n dX2_lookAt_10 rfl ?_
        refine r_aload_n dX2_lookAt_11 rfl ?_
        refine r_getV rfl rfl fl_2_49 dX2_lookAt_12 g0 ?_
        refine r_icmp_ge 110 dX2_lookAt_15 (by decide) (fun h15 => absurd h15 (fun q => absurd ((nI_leI (by omega) (by omega)).mp q) (by omega))) (fun h15 => ?_)
        refine r_aload_n dX2_lookAt_18 rfl ?_
        refine r_aload_n dX2_lookAt_19 rfl ?_
        refine r_iload_n dX2_lookAt_20 rfl ?_
        refine r_cSr (As := [_, _, _]) (c_X2_kindOf α _ _ k 0 (by omega) (by decide) ek) lk_2_50 (by decide) (by decide) rfl rfl (Nat.le_of_ble_eq_true rfl) dX2_lookAt_21 ?_
        refine r_astore (lv' := [(4, _), (3, _), (0, _), (1, _), (2, _)]) dX2_lookAt_24 (Nat.le_of_ble_eq_true rfl) rfl ?_
        refine r_aload dX2_lookAt_26 rfl ?_
        refine r_ifnull dX2_lookAt_28 ?_
        refine r_aload_n dX2_lookAt_31 rfl ?_
        refine r_getR rfl rfl fl_2_18 dX2_lookAt_32 ?_
        refine r_iload_n dX2_lookAt_35 rfl ?_
        refine r_aload dX2_lookAt_36 rfl ?_
        refine r_cOr (As := []) (c_X7_canRead α _ _ 2) lk_2_54_7 rfl rfl (by decide) (by decide) rfl rfl (Nat.le_of_ble_eq_true rfl) dX2_lookAt_38 ?_
        refine r_zastN rfl (by decide) dX2_lookAt_41 (by omega) (by omega) ?_
        refine r_aload_n dX2_lookAt_42 rfl ?_
        refine r_getR rfl rfl fl_2_22 dX2_lookAt_43 ?_
        refine r_iload_n dX2_lookAt_46 rfl ?_
        refine r_aload dX2_lookAt_47 rfl ?_
        refine r_cOr (As := []) (c_X7_canWrite α _ _ 2) lk_2_60_7 rfl rfl (by decide) (by decide) rfl rfl (Nat.le_of_ble_eq_true rfl) dX2_lookAt_49 ?_
        refine r_zastN rfl (by decide) dX2_lookAt_52 (by omega) (by omega) ?_
        refine r_aload_n dX2_lookAt_53 rfl ?_
        refine r_getR rfl rfl fl_2_25 dX2_lookAt_54 ?_
        refine r_iload_n dX2_lookAt_57 rfl ?_
        refine r_aload dX2_lookAt_58 rfl ?_
        refine r_aload_n dX2_lookAt_60 rfl ?_
        refine r_getR rfl rfl fl_2_63 dX2_lookAt_61 ?_
        refine r_iload_n dX2_lookAt_64 rfl ?_
        refine r_ialdN rfl dX2_lookAt_65 (by omega) (by omega) e2 ?_
        refine r_aload_n dX2_lookAt_66 rfl ?_
        refine r_getR rfl rfl fl_2_66 dX2_lookAt_67 ?_
        refine r_iload_n dX2_lookAt_70 rfl ?_
        refine r_ialdN rfl dX2_lookAt_71 (by omega) (by omega) e3 ?_
        refine r_cOr (As := [_, _]) (c_X7_learntOf α _ _ 2 _ _) lk_2_69_7 rfl rfl (by decide) (by decide) rfl rfl (Nat.le_of_ble_eq_true rfl) dX2_lookAt_72 ?_
        refine r_iastN rfl dX2_lookAt_75 (by omega) (by omega) ?_
        refine r_aload_n dX2_lookAt_76 rfl ?_
        refine r_getR rfl rfl fl_2_28 dX2_lookAt_77 ?_
        refine r_iload_n dX2_lookAt_80 rfl ?_
        refine r_aload dX2_lookAt_81 rfl ?_
        refine r_aload_n dX2_lookAt_83 rfl ?_
        refine r_getR rfl rfl fl_2_63 dX2_lookAt_84 ?_
        refine r_iload_n dX2_lookAt_87 rfl ?_
        refine r_ialdN rfl dX2_lookAt_88 (by omega) (by omega) e2 ?_
        refine r_cOr (As := [_]) (c_X7_neededOf α _ _ 2 _) lk_2_73_7 rfl rfl (by decide) (by decide) rfl rfl (Nat.le_of_ble_eq_true rfl) dX2_lookAt_89 ?_
        refine r_iastN rfl dX2_lookAt_92 (by omega) (by omega) ?_
        refine r_aload_n dX2_lookAt_93 rfl ?_
        refine r_getR rfl rfl fl_2_31 dX2_lookAt_94 ?_
        refine r_iload_n dX2_lookAt_97 rfl ?_
        refine r_aload_n dX2_lookAt_98 rfl ?_
        refine r_iload_n dX2_lookAt_99 rfl ?_
        refine r_cVr (As := [_]) (c_X5_notedOn α _ _ _ enn hs.num.1) lk_2_77 rfl rfl (by decide) (by decide) rfl rfl (Nat.le_of_ble_eq_true rfl) dX2_lookAt_100 ?_
        refine r_iastN rfl dX2_lookAt_103 (by omega) (by omega) ?_
        refine r_iinc (v := _ + 1) (lv' := [(3, _), (4, _), (0, _), (1, _), (2, _)]) dX2_lookAt_104 rfl rfl (Nat.le_of_ble_eq_true rfl) rfl ?_
        refine r_goto (tgt := 10) dX2_lookAt_107 (by decide) ?_
        rw [nI_1]
        refine r_keep [3, 0, 1, 2] rfl ?_
        have key := nx 1 1 _ _ (by rw [d1]; decide) (by rw [d2]; decide) d3.symm d4.symm
        rw [← en] at key
        exact key
      · have d1 : rdB s.1 k = false := by unfold rdB; rw [eκ]; rfl
        have d2 : wrB s.1 k = true := by unfold wrB; rw [eκ]; rfl
        have d3 : lnV s.1 k = s.1 3 k := by unfold lnV; rw [eκ]; rfl
        have d4 : akV s.1 k = s.1 2 k := by unfold akV; rw [eκ]; rfl
        refine r_iload_n dX2_lookAt_10 rfl ?_
        refine r_aload_n dX2_lookAt_11 rfl ?_
        refine r_getV rfl rfl fl_2_49 dX2_lookAt_12 g0 ?_
        refine r_icmp_ge 110 dX2_lookAt_15 (by decide) (fun h15 => absurd h15 (fun q => absurd ((nI_leI (by omega) (by omega)).mp q) (by omega))) (fun h15 => ?_)
        refine r_aload_n dX2_lookAt_18 rfl ?_
        refine r_aload_n dX2_lookAt_19 rfl ?_
        refine r_iload_n dX2_lookAt_20 rfl ?_
        refine r_cSr (As := [_, _, _]) (c_X2_kindOf α _ _ k 1 (by omega) (by decide) ek) lk_2_50 (by decide) (by decide) rfl rfl (Nat.le_of_ble_eq_true rfl) dX2_lookAt_21 ?_
        refine r_astore (lv' := [(4, _), (3, _), (0, _), (1, _), (2, _)]) dX2_lookAt_24 (Nat.le_of_ble_eq_true rfl) rfl ?_
        refine r_aload dX2_lookAt_26 rfl ?_
        refine r_ifnull dX2_lookAt_28 ?_
        refine r_aload_n dX2_lookAt_31 rfl ?_
        refine r_getR rfl rfl fl_2_18 dX2_lookAt_32 ?_
        refine r_iload_n dX2_lookAt_35 rfl ?_
        refine r_aload dX2_lookAt_36 rfl ?_
        refine r_cOr (As := []) (c_X1_canRead α _ _ 3) lk_2_54_1 rfl rfl (by decide) (by decide) rfl rfl (Nat.le_of_ble_eq_true rfl) dX2_lookAt_38 ?_
        refine r_zastN rfl (by decide) dX2_lookAt_41 (by omega) (by omega) ?_
        refine r_aload_n dX2_lookAt_42 rfl ?_
        refine r_getR rfl rfl fl_2_22 dX2_lookAt_43 ?_
        refine r_iload_n dX2_lookAt_46 rfl ?_
        refine r_aload dX2_lookAt_47 rfl ?_
        refine r_cOr (As := []) (c_X7_canWrite α _ _ 3) lk_2_60_1 rfl rfl (by decide) (by decide) rfl rfl (Nat.le_of_ble_eq_true rfl) dX2_lookAt_49 ?_
        refine r_zastN rfl (by decide) dX2_lookAt_52 (by omega) (by omega) ?_
        refine r_aload_n dX2_lookAt_53 rfl ?_
        refine r_getR rfl rfl fl_2_25 dX2_lookAt_54 ?_
        refine r_iload_n dX2_lookAt_57 rfl ?_
        refine r_aload dX2_lookAt_58 rfl ?_
        refine r_aload_n dX2_lookAt_60 rfl ?_
        refine r_getR rfl rfl fl_2_63 dX2_lookAt_61 ?_
        refine r_iload_n dX2_lookAt_64 rfl ?_
        refine r_ialdN rfl dX2_lookAt_65 (by omega) (by omega) e2 ?_
        refine r_aload_n dX2_lookAt_66 rfl ?_
        refine r_getR rfl rfl fl_2_66 dX2_lookAt_67 ?_
        refine r_iload_n dX2_lookAt_70 rfl ?_
        refine r_ialdN rfl dX2_lookAt_71 (by omega) (by omega) e3 ?_
        refine r_cOr (As := [_, _]) (c_X7_learntOf α _ _ 3 _ _) lk_2_69_1 rfl rfl (by decide) (by decide) rfl rfl (Nat.le_of_ble_eq_true rfl) dX2_lookAt_72 ?_
        refine r_iastN rfl dX2_lookAt_75 (by omega) (by omega) ?_
        refine r_aload_n dX2_lookAt_76 rfl ?_
        refine r_getR rfl rfl fl_2_28 dX2_lookAt_77 ?_
        refine r_iload_n dX2_lookAt_80 rfl ?_
        refine r_aload dX2_lookAt_81 rfl ?_
        refine r_aload_n dX2_lookAt_83 rfl ?_
        refine r_getR rfl rfl fl_2_63 dX2_lookAt_84 ?_
        refine r_iload_n dX2_lookAt_87 rfl ?_
        refine r_ialdN rfl dX2_lookAt_88 (by omega) (by omega) e2 ?_
        refine r_cOr (As := [_]) (c_X7_neededOf α _ _ 3 _) lk_2_73_1 rfl rfl (by decide) (by decide) rfl rfl (Nat.le_of_ble_eq_true rfl) dX2_lookAt_89 ?_
        refine r_iastN rfl dX2_lookAt_92 (by omega) (by omega) ?_
        refine r_aload_n dX2_lookAt_93 rfl ?_
        refine r_getR rfl rfl fl_2_31 dX2_lookAt_94 ?_
        refine r_iload_n dX2_lookAt_97 rfl ?_
        refine r_aload_n dX2_lookAt_98 rfl ?_
        refine r_iload_n dX2_lookAt_99 rfl ?_
        refine r_cVr (As := [_]) (c_X5_notedOn α _ _ _ enn hs.num.1) lk_2_77 rfl rfl (by decide) (by decide) rfl rfl (Nat.le_of_ble_eq_true rfl) dX2_lookAt_100 ?_
        refine r_iastN rfl dX2_lookAt_103 (by omega) (by omega) ?_
        refine r_iinc (v := _ + 1) (lv' := [(3, _), (4, _), (0, _), (1, _), (2, _)]) dX2_lookAt_104 rfl rfl (Nat.le_of_ble_eq_true rfl) rfl ?_
        refine r_goto (tgt := 10) dX2_lookAt_107 (by decide) ?_
        rw [nI_1]
        refine r_keep [3, 0, 1, 2] rfl ?_
        have key := nx 0 1 _ _ (by rw [d1]; decide) (by rw [d2]; decide) d3.symm d4.symm
        rw [← en] at key
        exact key
      · have d1 : rdB s.1 k = true := by unfold rdB; rw [eκ]; rfl
        have d2 : wrB s.1 k = true := by unfold wrB; rw [eκ]; rfl
        have d3 : lnV s.1 k = 0 := by unfold lnV; rw [eκ]; rfl
        have d4 : akV s.1 k = s.1 2 k := by unfold akV; rw [eκ]; rfl
        refine r_iload_n dX2_lookAt_10 rfl ?_
        refine r_aload_n dX2_lookAt_11 rfl ?_
        refine r_getV rfl rfl fl_2_49 dX2_lookAt_12 g0 ?_
        refine r_icmp_ge 110 dX2_lookAt_15 (by decide) (fun h15 => absurd h15 (fun q => absurd ((nI_leI (by omega) (by omega)).mp q) (by omega))) (fun h15 => ?_)
        refine r_aload_n dX2_lookAt_18 rfl ?_
        refine r_aload_n dX2_lookAt_19 rfl ?_
        refine r_iload_n dX2_lookAt_20 rfl ?_
        refine r_cSr (As := [_, _, _]) (c_X2_kindOf α _ _ k 2 (by omega) (by decide) ek) lk_2_50 (by decide) (by decide) rfl rfl (Nat.le_of_ble_eq_true rfl) dX2_lookAt_21 ?_
        refine r_astore (lv' := [(4, _), (3, _), (0, _), (1, _), (2, _)]) dX2_lookAt_24 (Nat.le_of_ble_eq_true rfl) rfl ?_
        refine r_aload dX2_lookAt_26 rfl ?_
        refine r_ifnull dX2_lookAt_28 ?_
        refine r_aload_n dX2_lookAt_31 rfl ?_
        refine r_getR rfl rfl fl_2_18 dX2_lookAt_32 ?_
        refine r_iload_n dX2_lookAt_35 rfl ?_
        refine r_aload dX2_lookAt_36 rfl ?_
        refine r_cOr (As := []) (c_X7_canRead α _ _ 4) lk_2_54_4 rfl rfl (by decide) (by decide) rfl rfl (Nat.le_of_ble_eq_true rfl) dX2_lookAt_38 ?_
        refine r_zastN rfl (by decide) dX2_lookAt_41 (by omega) (by omega) ?_
        refine r_aload_n dX2_lookAt_42 rfl ?_
        refine r_getR rfl rfl fl_2_22 dX2_lookAt_43 ?_
        refine r_iload_n dX2_lookAt_46 rfl ?_
        refine r_aload dX2_lookAt_47 rfl ?_
        refine r_cOr (As := []) (c_X7_canWrite α _ _ 4) lk_2_60_4 rfl rfl (by decide) (by decide) rfl rfl (Nat.le_of_ble_eq_true rfl) dX2_lookAt_49 ?_
        refine r_zastN rfl (by decide) dX2_lookAt_52 (by omega) (by omega) ?_
        refine r_aload_n dX2_lookAt_53 rfl ?_
        refine r_getR rfl rfl fl_2_25 dX2_lookAt_54 ?_
        refine r_iload_n dX2_lookAt_57 rfl ?_
        refine r_aload dX2_lookAt_58 rfl ?_
        refine r_aload_n dX2_lookAt_60 rfl ?_
        refine r_getR rfl rfl fl_2_63 dX2_lookAt_61 ?_
        refine r_iload_n dX2_lookAt_64 rfl ?_
        refine r_ialdN rfl dX2_lookAt_65 (by omega) (by omega) e2 ?_
        refine r_aload_n dX2_lookAt_66 rfl ?_
        refine r_getR rfl rfl fl_2_66 dX2_lookAt_67 ?_
        refine r_iload_n dX2_lookAt_70 rfl ?_
        refine r_ialdN rfl dX2_lookAt_71 (by omega) (by omega) e3 ?_
        refine r_cOr (As := [_, _]) (c_X4_learntOf α _ _ 4 _ _) lk_2_69_4 rfl rfl (by decide) (by decide) rfl rfl (Nat.le_of_ble_eq_true rfl) dX2_lookAt_72 ?_
        refine r_iastN rfl dX2_lookAt_75 (by omega) (by omega) ?_
        refine r_aload_n dX2_lookAt_76 rfl ?_
        refine r_getR rfl rfl fl_2_28 dX2_lookAt_77 ?_
        refine r_iload_n dX2_lookAt_80 rfl ?_
        refine r_aload dX2_lookAt_81 rfl ?_
        refine r_aload_n dX2_lookAt_83 rfl ?_
        refine r_getR rfl rfl fl_2_63 dX2_lookAt_84 ?_
        refine r_iload_n dX2_lookAt_87 rfl ?_
        refine r_ialdN rfl dX2_lookAt_88 (by omega) (by omega) e2 ?_
        refine r_cOr (As := [_]) (c_X7_neededOf α _ _ 4 _) lk_2_73_4 rfl rfl (by decide) (by decide) rfl rfl (Nat.le_of_ble_eq_true rfl) dX2_lookAt_89 ?_
        refine r_iastN rfl dX2_lookAt_92 (by omega) (by omega) ?_
        refine r_aload_n dX2_lookAt_93 rfl ?_
        refine r_getR rfl rfl fl_2_31 dX2_lookAt_94 ?_
        refine r_iload_n dX2_lookAt_97 rfl ?_
        refine r_aload_n dX2_lookAt_98 rfl ?_
        refine r_iload_n dX2_lookAt_99 rfl ?_
        refine r_cVr (As := [_]) (c_X5_notedOn α _ _ _ enn hs.num.1) lk_2_77 rfl rfl (by decide) (by decide) rfl rfl (Nat.le_of_ble_eq_true rfl) dX2_lookAt_100 ?_
        refine r_iastN rfl dX2_lookAt_103 (by omega) (by omega) ?_
        refine r_iinc (v := _ + 1) (lv' := [(3, _), (4, _), (0, _), (1, _), (2, _)]) dX2_lookAt_104 rfl rfl (Nat.le_of_ble_eq_true rfl) rfl ?_
        refine r_goto (tgt := 10) dX2_lookAt_107 (by decide) ?_
        rw [nI_1]
        refine r_keep [3, 0, 1, 2] rfl ?_
        have key := nx 1 1 _ _ (by rw [d1]; decide) (by rw [d2]; decide) d3.symm d4.symm
        rw [← en] at key
        exact key
      · have d1 : rdB s.1 k = true := by unfold rdB; rw [eκ]; rfl
        have d2 : wrB s.1 k = false := by unfold wrB; rw [eκ]; rfl
        have d3 : lnV s.1 k = s.1 3 k := by unfold lnV; rw [eκ]; rfl
        have d4 : akV s.1 k = s.1 2 k := by unfold akV; rw [eκ]; rfl
        refine r_iload_n dX2_lookAt_10 rfl ?_
        refine r_aload_n dX2_lookAt_11 rfl ?_
        refine r_getV rfl rfl fl_2_49 dX2_lookAt_12 g0 ?_
        refine r_icmp_ge 110 dX2_lookAt_15 (by decide) (fun h15 => absurd h15 (fun q => absurd ((nI_leI (by omega) (by omega)).mp q) (by omega))) (fun h15 => ?_)
        refine r_aload_n dX2_lookAt_18 rfl ?_
        refine r_aload_n dX2_lookAt_19 rfl ?_
        refine r_iload_n dX2_lookAt_20 rfl ?_
        refine r_cSr (As := [_, _, _]) (c_X2_kindOf α _ _ k 3 (by omega) (by decide) ek) lk_2_50 (by decide) (by decide) rfl rfl (Nat.le_of_ble_eq_true rfl) dX2_lookAt_21 ?_
        refine r_astore (lv' := [(4, _), (3, _), (0, _), (1, _), (2, _)]) dX2_lookAt_24 (Nat.le_of_ble_eq_true rfl) rfl ?_
        refine r_aload dX2_lookAt_26 rfl ?_
        refine r_ifnull dX2_lookAt_28 ?_
        refine r_aload_n dX2_lookAt_31 rfl ?_
        refine r_getR rfl rfl fl_2_18 dX2_lookAt_32 ?_
        refine r_iload_n dX2_lookAt_35 rfl ?_
        refine r_aload dX2_lookAt_36 rfl ?_
        refine r_cOr (As := []) (c_X7_canRead α _ _ 5) lk_2_54_0 rfl rfl (by decide) (by decide) rfl rfl (Nat.le_of_ble_eq_true rfl) dX2_lookAt_38 ?_
        refine r_zastN rfl (by decide) dX2_lookAt_41 (by omega) (by omega) ?_
        refine r_aload_n dX2_lookAt_42 rfl ?_
        refine r_getR rfl rfl fl_2_22 dX2_lookAt_43 ?_
        refine r_iload_n dX2_lookAt_46 rfl ?_
        refine r_aload dX2_lookAt_47 rfl ?_
        refine r_cOr (As := []) (c_X0_canWrite α _ _ 5) lk_2_60_0 rfl rfl (by decide) (by decide) rfl rfl (Nat.le_of_ble_eq_true rfl) dX2_lookAt_49 ?_
        refine r_zastN rfl (by decide) dX2_lookAt_52 (by omega) (by omega) ?_
        refine r_aload_n dX2_lookAt_53 rfl ?_
        refine r_getR rfl rfl fl_2_25 dX2_lookAt_54 ?_
        refine r_iload_n dX2_lookAt_57 rfl ?_
        refine r_aload dX2_lookAt_58 rfl ?_
        refine r_aload_n dX2_lookAt_60 rfl ?_
        refine r_getR rfl rfl fl_2_63 dX2_lookAt_61 ?_
        refine r_iload_n dX2_lookAt_64 rfl ?_
        refine r_ialdN rfl dX2_lookAt_65 (by omega) (by omega) e2 ?_
        refine r_aload_n dX2_lookAt_66 rfl ?_
        refine r_getR rfl rfl fl_2_66 dX2_lookAt_67 ?_
        refine r_iload_n dX2_lookAt_70 rfl ?_
        refine r_ialdN rfl dX2_lookAt_71 (by omega) (by omega) e3 ?_
        refine r_cOr (As := [_, _]) (c_X7_learntOf α _ _ 5 _ _) lk_2_69_0 rfl rfl (by decide) (by decide) rfl rfl (Nat.le_of_ble_eq_true rfl) dX2_lookAt_72 ?_
        refine r_iastN rfl dX2_lookAt_75 (by omega) (by omega) ?_
        refine r_aload_n dX2_lookAt_76 rfl ?_
        refine r_getR rfl rfl fl_2_28 dX2_lookAt_77 ?_
        refine r_iload_n dX2_lookAt_80 rfl ?_
        refine r_aload dX2_lookAt_81 rfl ?_
        refine r_aload_n dX2_lookAt_83 rfl ?_
        refine r_getR rfl rfl fl_2_63 dX2_lookAt_84 ?_
        refine r_iload_n dX2_lookAt_87 rfl ?_
        refine r_ialdN rfl dX2_lookAt_88 (by omega) (by omega) e2 ?_
        refine r_cOr (As := [_]) (c_X7_neededOf α _ _ 5 _) lk_2_73_0 rfl rfl (by decide) (by decide) rfl rfl (Nat.le_of_ble_eq_true rfl) dX2_lookAt_89 ?_
        refine r_iastN rfl dX2_lookAt_92 (by omega) (by omega) ?_
        refine r_aload_n dX2_lookAt_93 rfl ?_
        refine r_getR rfl rfl fl_2_31 dX2_lookAt_94 ?_
        refine r_iload_n dX2_lookAt_97 rfl ?_
        refine r_aload_n dX2_lookAt_98 rfl ?_
        refine r_iload_n dX2_lookAt_99 rfl ?_
        refine r_cVr (As := [_]) (c_X5_notedOn α _ _ _ enn hs.num.1) lk_2_77 rfl rfl (by decide) (by decide) rfl rfl (Nat.le_of_ble_eq_true rfl) dX2_lookAt_100 ?_
        refine r_iastN rfl dX2_lookAt_103 (by omega) (by omega) ?_
        refine r_iinc (v := _ + 1) (lv' := [(3, _), (4, _), (0, _), (1, _), (2, _)]) dX2_lookAt_104 rfl rfl (Nat.le_of_ble_eq_true rfl) rfl ?_
        refine r_goto (tgt := 10) dX2_lookAt_107 (by decide) ?_
        rw [nI_1]
        refine r_keep [3, 0, 1, 2] rfl ?_
        have key := nx 1 0 _ _ (by rw [d1]; decide) (by rw [d2]; decide) d3.symm d4.symm
        rw [← en] at key
        exact key
      · have d1 : rdB s.1 k = false := by unfold rdB; rw [eκ]; rfl
        have d2 : wrB s.1 k = true := by unfold wrB; rw [eκ]; rfl
        have d3 : lnV s.1 k = s.1 3 k ||| s.1 2 k := by unfold lnV; rw [eκ]; rfl
        have d4 : akV s.1 k = s.1 2 k := by unfold akV; rw [eκ]; rfl
        refine r_iload_n dX2_lookAt_10 rfl ?_
        refine r_aload_n dX2_lookAt_11 rfl ?_
        refine r_getV rfl rfl fl_2_49 dX2_lookAt_12 g0 ?_
        refine r_icmp_ge 110 dX2_lookAt_15 (by decide) (fun h15 => absurd h15 (fun q => absurd ((nI_leI (by omega) (by omega)).mp q) (by omega))) (fun h15 => ?_)
        refine r_aload_n dX2_lookAt_18 rfl ?_
        refine r_aload_n dX2_lookAt_19 rfl ?_
        refine r_iload_n dX2_lookAt_20 rfl ?_
        refine r_cSr (As := [_, _, _]) (c_X2_kindOf α _ _ k 4 (by omega) (by decide) ek) lk_2_50 (by decide) (by decide) rfl rfl (Nat.le_of_ble_eq_true rfl) dX2_lookAt_21 ?_
        refine r_astore (lv' := [(4, _), (3, _), (0, _), (1, _), (2, _)]) dX2_lookAt_24 (Nat.le_of_ble_eq_true rfl) rfl ?_
        refine r_aload dX2_lookAt_26 rfl ?_
        refine r_ifnull dX2_lookAt_28 ?_
        refine r_aload_n dX2_lookAt_31 rfl ?_
        refine r_getR rfl rfl fl_2_18 dX2_lookAt_32 ?_
        refine r_iload_n dX2_lookAt_35 rfl ?_
        refine r_aload dX2_lookAt_36 rfl ?_
        refine r_cOr (As := []) (c_X1_canRead α _ _ 6) lk_2_54_8 rfl rfl (by decide) (by decide) rfl rfl (Nat.le_of_ble_eq_true rfl) dX2_lookAt_38 ?_
        refine r_zastN rfl (by decide) dX2_lookAt_41 (by omega) (by omega) ?_
        refine r_aload_n dX2_lookAt_42 rfl ?_
        refine r_getR rfl rfl fl_2_22 dX2_lookAt_43 ?_
        refine r_iload_n dX2_lookAt_46 rfl ?_
        refine r_aload dX2_lookAt_47 rfl ?_
        refine r_cOr (As := []) (c_X7_canWrite α _ _ 6) lk_2_60_8 rfl rfl (by decide) (by decide) rfl rfl (Nat.le_of_ble_eq_true rfl) dX2_lookAt_49 ?_
        refine r_zastN rfl (by decide) dX2_lookAt_52 (by omega) (by omega) ?_
        refine r_aload_n dX2_lookAt_53 rfl ?_
        refine r_getR rfl rfl fl_2_25 dX2_lookAt_54 ?_
        refine r_iload_n dX2_lookAt_57 rfl ?_
        refine r_aload dX2_lookAt_58 rfl ?_
        refine r_aload_n dX2_lookAt_60 rfl ?_
        refine r_getR rfl rfl fl_2_63 dX2_lookAt_61 ?_
        refine r_iload_n dX2_lookAt_64 rfl ?_
        refine r_ialdN rfl dX2_lookAt_65 (by omega) (by omega) e2 ?_
        refine r_aload_n dX2_lookAt_66 rfl ?_
        refine r_getR rfl rfl fl_2_66 dX2_lookAt_67 ?_
        refine r_iload_n dX2_lookAt_70 rfl ?_
        refine r_ialdN rfl dX2_lookAt_71 (by omega) (by omega) e3 ?_
        refine r_cOr (As := [_, _]) (c_X8_learntOf α _ _ 6 _ _) lk_2_69_8 rfl rfl (by decide) (by decide) rfl rfl (Nat.le_of_ble_eq_true rfl) dX2_lookAt_72 ?_
        refine r_iastN rfl dX2_lookAt_75 (by omega) (by omega) ?_
        refine r_aload_n dX2_lookAt_76 rfl ?_
        refine r_getR rfl rfl fl_2_28 dX2_lookAt_77 ?_
        refine r_iload_n dX2_lookAt_80 rfl ?_
        refine r_aload dX2_lookAt_81 rfl ?_
        refine r_aload_n dX2_lookAt_83 rfl ?_
        refine r_getR rfl rfl fl_2_63 dX2_lookAt_84 ?_
        refine r_iload_n dX2_lookAt_87 rfl ?_
        refine r_ialdN rfl dX2_lookAt_88 (by omega) (by omega) e2 ?_
        refine r_cOr (As := [_]) (c_X7_neededOf α _ _ 6 _) lk_2_73_8 rfl rfl (by decide) (by decide) rfl rfl (Nat.le_of_ble_eq_true rfl) dX2_lookAt_89 ?_
        refine r_iastN rfl dX2_lookAt_92 (by omega) (by omega) ?_
        refine r_aload_n dX2_lookAt_93 rfl ?_
        refine r_getR rfl rfl fl_2_31 dX2_lookAt_94 ?_
        refine r_iload_n dX2_lookAt_97 rfl ?_
        refine r_aload_n dX2_lookAt_98 rfl ?_
        refine r_iload_n dX2_lookAt_99 rfl ?_
        refine r_cVr (As := [_]) (c_X5_notedOn α _ _ _ enn hs.num.1) lk_2_77 rfl rfl (by decide) (by decide) rfl rfl (Nat.le_of_ble_eq_true rfl) dX2_lookAt_100 ?_
        refine r_iastN rfl dX2_lookAt_103 (by omega) (by omega) ?_
        refine r_iinc (v := _ + 1) (lv' := [(3, _), (4, _), (0, _), (1, _), (2, _)]) dX2_lookAt_104 rfl rfl (Nat.le_of_ble_eq_true rfl) rfl ?_
        refine r_goto (tgt := 10) dX2_lookAt_107 (by decide) ?_
        rw [nI_1]
        refine r_keep [3, 0, 1, 2] rfl ?_
        have key := nx 0 1 _ _ (by rw [d1]; decide) (by rw [d2]; decide) d3.symm d4.symm
        rw [← en] at key
        exact key
      · have d1 : rdB s.1 k = true := by unfold rdB; rw [eκ]; rfl
        have d2 : wrB s.1 k = false := by unfold wrB; rw [eκ]; rfl
        have d3 : lnV s.1 k = 0 := by unfold lnV; rw [eκ]; rfl
        have d4 : akV s.1 k = 0 := by unfold akV; rw [eκ]; rfl
        refine r_iload_n dX2_lookAt_10 rfl ?_
        refine r_aload_n dX2_lookAt_11 rfl ?_
        refine r_getV rfl rfl fl_2_49 dX2_lookAt_12 g0 ?_
        refine r_icmp_ge 110 dX2_lookAt_15 (by decide) (fun h15 => absurd h15 (fun q => absurd ((nI_leI (by omega) (by omega)).mp q) (by omega))) (fun h15 => ?_)
        refine r_aload_n dX2_lookAt_18 rfl ?_
        refine r_aload_n dX2_lookAt_19 rfl ?_
        refine r_iload_n dX2_lookAt_20 rfl ?_
        refine r_cSr (As := [_, _, _]) (c_X2_kindOf α _ _ k 5 (by omega) (by decide) ek) lk_2_50 (by decide) (by decide) rfl rfl (Nat.le_of_ble_eq_true rfl) dX2_lookAt_21 ?_
        refine r_astore (lv' := [(4, _), (3, _), (0, _), (1, _), (2, _)]) dX2_lookAt_24 (Nat.le_of_ble_eq_true rfl) rfl ?_
        refine r_aload dX2_lookAt_26 rfl ?_
        refine r_ifnull dX2_lookAt_28 ?_
        refine r_aload_n dX2_lookAt_31 rfl ?_
        refine r_getR rfl rfl fl_2_18 dX2_lookAt_32 ?_
        refine r_iload_n dX2_lookAt_35 rfl ?_
        refine r_aload dX2_lookAt_36 rfl ?_
        refine r_cOr (As := []) (c_X7_canRead α _ _ 7) lk_2_54_3 rfl rfl (by decide) (by decide) rfl rfl (Nat.le_of_ble_eq_true rfl) dX2_lookAt_38 ?_
        refine r_zastN rfl (by decide) dX2_lookAt_41 (by omega) (by omega) ?_
        refine r_aload_n dX2_lookAt_42 rfl ?_
        refine r_getR rfl rfl fl_2_22 dX2_lookAt_43 ?_
        refine r_iload_n dX2_lookAt_46 rfl ?_
        refine r_aload dX2_lookAt_47 rfl ?_
        refine r_cOr (As := []) (c_X3_canWrite α _ _ 7) lk_2_60_3 rfl rfl (by decide) (by decide) rfl rfl (Nat.le_of_ble_eq_true rfl) dX2_lookAt_49 ?_
        refine r_zastN rfl (by decide) dX2_lookAt_52 (by omega) (by omega) ?_
        refine r_aload_n dX2_lookAt_53 rfl ?_
        refine r_getR rfl rfl fl_2_25 dX2_lookAt_54 ?_
        refine r_iload_n dX2_lookAt_57 rfl ?_
        refine r_aload dX2_lookAt_58 rfl ?_
        refine r_aload_n dX2_lookAt_60 rfl ?_
        refine r_getR rfl rfl fl_2_63 dX2_lookAt_61 ?_
        refine r_iload_n dX2_lookAt_64 rfl ?_
        refine r_ialdN rfl dX2_lookAt_65 (by omega) (by omega) e2 ?_
        refine r_aload_n dX2_lookAt_66 rfl ?_
        refine r_getR rfl rfl fl_2_66 dX2_lookAt_67 ?_
        refine r_iload_n dX2_lookAt_70 rfl ?_
        refine r_ialdN rfl dX2_lookAt_71 (by omega) (by omega) e3 ?_
        refine r_cOr (As := [_, _]) (c_X4_learntOf α _ _ 7 _ _) lk_2_69_3 rfl rfl (by decide) (by decide) rfl rfl (Nat.le_of_ble_eq_true rfl) dX2_lookAt_72 ?_
        refine r_iastN rfl dX2_lookAt_75 (by omega) (by omega) ?_
        refine r_aload_n dX2_lookAt_76 rfl ?_
        refine r_getR rfl rfl fl_2_28 dX2_lookAt_77 ?_
        refine r_iload_n dX2_lookAt_80 rfl ?_
        refine r_aload dX2_lookAt_81 rfl ?_
        refine r_aload_n dX2_lookAt_83 rfl ?_
        refine r_getR rfl rfl fl_2_63 dX2_lookAt_84 ?_
        refine r_iload_n dX2_lookAt_87 rfl ?_
        refine r_ialdN rfl dX2_lookAt_88 (by omega) (by omega) e2 ?_
        refine r_cOr (As := [_]) (c_X3_neededOf α _ _ 7 _) lk_2_73_3 rfl rfl (by decide) (by decide) rfl rfl (Nat.le_of_ble_eq_true rfl) dX2_lookAt_89 ?_
        refine r_iastN rfl dX2_lookAt_92 (by omega) (by omega) ?_
        refine r_aload_n dX2_lookAt_93 rfl ?_
        refine r_getR rfl rfl fl_2_31 dX2_lookAt_94 ?_
        refine r_iload_n dX2_lookAt_97 rfl ?_
        refine r_aload_n dX2_lookAt_98 rfl ?_
        refine r_iload_n dX2_lookAt_99 rfl ?_
        refine r_cVr (As := [_]) (c_X5_notedOn α _ _ _ enn hs.num.1) lk_2_77 rfl rfl (by decide) (by decide) rfl rfl (Nat.le_of_ble_eq_true rfl) dX2_lookAt_100 ?_
        refine r_iastN rfl dX2_lookAt_103 (by omega) (by omega) ?_
        refine r_iinc (v := _ + 1) (lv' := [(3, _), (4, _), (0, _), (1, _), (2, _)]) dX2_lookAt_104 rfl rfl (Nat.le_of_ble_eq_true rfl) rfl ?_
        refine r_goto (tgt := 10) dX2_lookAt_107 (by decide) ?_
        rw [nI_1]
        refine r_keep [3, 0, 1, 2] rfl ?_
        have key := nx 1 0 _ _ (by rw [d1]; decide) (by rw [d2]; decide) d3.symm d4.symm
        rw [← en] at key
        exact key
  refine r_aload_n dX2_lookAt_0 rfl ?_
  refine r_aload_n dX2_lookAt_1 rfl ?_
  refine r_getV rfl rfl fl_2_43 dX2_lookAt_2 hx.n ?_
  refine r_putI rfl rfl fl_2_49 fw_2_0 dX2_lookAt_5 ?_
  refine r_iconst (v := 0) dX2_lookAt_8 rfl ?_
  refine r_istore_n (lv' := [(3, _), (0, _), (1, _), (2, _)]) dX2_lookAt_9 (Nat.le_of_ble_eq_true rfl) rfl ?_
  refine r_keep [3, 0, 1, 2] rfl (loop 0 (by omega) _ (fun a ha => by rw [fd_up_cell (by omega)]) fd_up_same (fun d hd => by omega))
