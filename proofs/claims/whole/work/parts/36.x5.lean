/-! the class: fact; an item of a text -/
def fxH (I : fdI) (d w : Int32) : Int32 := I (10 + w.toNatClampNeg) d.toNatClampNeg
theorem c_X5_tellFact (α : Nat → Nat) (I : fdI) (L : fdL) (d what f b : Int32) (hb01 : b = 0 ∨ b = 1) {n : Nat} (hn : I 8 0 = nI n) (hn7 : 1 ≤ n ∧ n ≤ 7) : Con fd_SX α yX5_tellFact mX5_tellFact [.ref (α 8), .int d, .int what, .int f, .int b] I L (fd_is (some (.int (if dayP d n ∧ dayP what 2 ∧ dayP f 6 then (if fd_b ((fxH I d what >>> (f &&& 31)) &&& 1 = 1) = b then -3 else 1) else -2))) (if (dayP d n ∧ dayP what 2 ∧ dayP f 6) ∧ ¬ fd_b ((fxH I d what >>> (f &&& 31)) &&& 1 = 1) = b then fd_up (fd_up I (10 + what.toNatClampNeg) d.toNatClampNeg (fxH I d what ^^^ (1 <<< (f &&& 31)))) 8 6 0 else I) L) := by
  refine Con.of (by decide) rfl (Nat.le_of_ble_eq_true rfl) ?_
  by_cases hok : dayP d n ∧ dayP what 2 ∧ dayP f 6
  · rw [if_pos hok]
    obtain ⟨j, hj, rfl⟩ := dayP_nI hok.1
    obtain ⟨w, hw, rfl⟩ := dayP_nI hok.2.1
    have g9 := dayP_n0 hok.2.1
    have ej : (nI j).toNatClampNeg = j := nI_clamp (by omega)
    have g14 : ¬ (1 : Int32) < nI w := fun q => absurd ((nI_ltI (a := 1) (by decide) (by omega)).mp q) (by omega)
    rcases (show w = 0 ∨ w = 1 by omega) with rfl | rfl
    · have eh : fxH I (nI j) (nI 0) = I 10 j := by unfold fxH; rw [ej]; rfl
      rw [eh, show 10 + (nI 0).toNatClampNeg = 10 from rfl, ej]
      have jn : ∀ v : Int32, v = fd_b ((I 10 j >>> (f &&& 31)) &&& 1 = 1) → Rn fd_SX α mX5_tellFact 60 [(5, .ref (α 10)), (0, .ref (α 8)), (1, .int (nI j)), (3, .int f), (4, .int b)] [.int v] I L (fd_is (some (.int (if fd_b ((I 10 j >>> (f &&& 31)) &&& 1 = 1) = b then -3 else 1))) (if (dayP (nI j) n ∧ dayP (nI 0) 2 ∧ dayP f 6) ∧ ¬ fd_b ((I 10 j >>> (f &&& 31)) &&& 1 = 1) = b then fd_up (fd_up I 10 j (I 10 j ^^^ (1 <<< (f &&& 31)))) 8 6 0 else I) L) := by
        intro v hv
        subst hv
        by_cases hb : fd_b ((I 10 j >>> (f &&& 31)) &&& 1 = 1) = b
        · rw [if_pos hb, if_neg (fun q => q.2 hb)]
          refine r_istore (lv' := [(6, _), (5, _), (0, _), (1, _), (3, _), (4, _)]) dX5_tellFact_60 (Nat.le_of_ble_eq_true rfl) rfl ?_
          refine r_iload dX5_tellFact_62 rfl ?_
          refine r_iload dX5_tellFact_64 rfl ?_
          refine r_icmp_ne 72 dX5_tellFact_66 (by decide) (fun h66 => absurd h66 (not_not_intro hb)) (fun h66 => ?_)
          refine r_bipush (v := (-3)) dX5_tellFact_69 rfl ?_
          refine r_iret rfl dX5_tellFact_71 ?_
          exact fd_isI rfl rfl rfl
        · rw [if_neg hb, if_pos ⟨hok, hb⟩]
          refine r_istore (lv' := [(6, _), (5, _), (0, _), (1, _), (3, _), (4, _)]) dX5_tellFact_60 (Nat.le_of_ble_eq_true rfl) rfl ?_
          refine r_iload dX5_tellFact_62 rfl ?_
          refine r_iload dX5_tellFact_64 rfl ?_
          refine r_icmp_ne 72 dX5_tellFact_66 (by decide) (fun h66 => ?_) (fun h66 => absurd h66 hb)
          refine r_aload dX5_tellFact_72 rfl ?_
          refine r_iload_n dX5_tellFact_74 rfl ?_
          refine r_dup2 dX5_tellFact_75 rfl rfl ?_
          refine r_ialdN rfl dX5_tellFact_76 (by omega) (by omega) rfl ?_
          refine r_iconst (v := 1) dX5_tellFact_77 rfl ?_
          refine r_iload_n dX5_tellFact_78 rfl ?_
          refine r_ishl dX5_tellFact_79 ?_
          refine r_ixor dX5_tellFact_80 ?_
          refine r_iastN rfl dX5_tellFact_81 (by omega) (by omega) ?_
          refine r_aload_n dX5_tellFact_82 rfl ?_
          refine r_iconst (v := 0) dX5_tellFact_83 rfl ?_
          refine r_putI rfl rfl fl_5_65 fw_5_6 dX5_tellFact_84 ?_
          refine r_iconst (v := 1) dX5_tellFact_87 rfl ?_
          refine r_iret rfl dX5_tellFact_88 ?_
          exact fd_isI rfl rfl rfl
      refine r_aload_n dX5_tellFact_0 rfl ?_
      refine r_iload_n dX5_tellFact_1 rfl ?_
      refine r_cVr (As := [_]) (c_X5_hasDay α _ _ _ hn hn7) lk_5_81 rfl rfl (by decide) (by decide) rfl rfl (Nat.le_of_ble_eq_true rfl) dX5_tellFact_2 ?_
      refine r_if_eq 24 dX5_tellFact_5 (by decide) (fun h5 => absurd h5 (fd_bn.mpr hok.1)) (fun h5 => ?_)
      refine r_iload_n dX5_tellFact_8 rfl ?_
      refine r_if_lt 24 dX5_tellFact_9 (by decide) (fun h9 => absurd h9 g9) (fun h9 => ?_)
      refine r_iload_n dX5_tellFact_12 rfl ?_
      refine r_iconst (v := 1) dX5_tellFact_13 rfl ?_
      refine r_icmp_gt 24 dX5_tellFact_14 (by decide) (fun h14 => absurd h14 g14) (fun h14 => ?_)
      refine r_iload_n dX5_tellFact_17 rfl ?_
      refine r_cNr (As := [_]) (c_X10_isFact α _ _ _) rfl (by decide) rfl rfl (Nat.le_of_ble_eq_true rfl) dX5_tellFact_18 ?_
      refine r_if_ne 27 dX5_tellFact_21 (by decide) (fun h21 => ?_) (fun h21 => absurd h21 (fd_bn.mpr hok.2.2))
      refine r_iload_n dX5_tellFact_27 rfl ?_
      refine r_if_ne 38 dX5_tellFact_28 (by decide) (fun h28 => absurd h28 (not_not_intro rfl)) (fun h28 => ?_)
      refine r_aload_n dX5_tellFact_31 rfl ?_
      refine r_getR rfl rfl fl_5_15 dX5_tellFact_32 ?_
      refine r_goto (tgt := 42) dX5_tellFact_35 (by decide) ?_
      refine r_astore (lv' := [(5, _), (0, _), (1, _), (2, _), (3, _), (4, _)]) dX5_tellFact_42 (Nat.le_of_ble_eq_true rfl) rfl ?_
      refine r_aload dX5_tellFact_44 rfl ?_
      refine r_iload_n dX5_tellFact_46 rfl ?_
      refine r_ialdN rfl dX5_tellFact_47 (by omega) (by omega) rfl ?_
      refine r_iload_n dX5_tellFact_48 rfl ?_
      refine r_ishr dX5_tellFact_49 ?_
      refine r_iconst (v := 1) dX5_tellFact_50 rfl ?_
      refine r_iand dX5_tellFact_51 ?_
      refine r_if_eq 59 dX5_tellFact_52 (by decide) (fun h52 => ?_) (fun h52 => ?_)
      · have ev : (0 : Int32) = fd_b ((I 10 j >>> (f &&& 31)) &&& 1 = 1) := (fd_b_f (fun q => absurd (h52.symm.trans q) (by decide))).symm
        refine r_iconst (v := 0) dX5_tellFact_59 rfl ?_
        exact r_keep [5, 0, 1, 3, 4] rfl (jn _ ev)
      · have ev : (1 : Int32) = fd_b ((I 10 j >>> (f &&& 31)) &&& 1 = 1) := (fd_b_t (biB_n.mp h52)).symm
        refine r_iconst (v := 1) dX5_tellFact_55 rfl ?_
        refine r_goto (tgt := 60) dX5_tellFact_56 (by decide) ?_
        exact r_keep [5, 0, 1, 3, 4] rfl (jn _ ev)
    · have eh : fxH I (nI j) (nI 1) = I 11 j := by unfold fxH; rw [ej]; rfl
      rw [eh, show 10 + (nI 1).toNatClampNeg = 11 from rfl, ej]
      have jn : ∀ v : Int32, v = fd_b ((I 11 j >>> (f &&& 31)) &&& 1 = 1) → Rn fd_SX α mX5_tellFact 60 [(5, .ref (α 11)), (0, .ref (α 8)), (1, .int (nI j)), (3, .int f), (4, .int b)] [.int v] I L (fd_is (some (.int (if fd_b ((I 11 j >>> (f &&& 31)) &&& 1 = 1) = b then -3 else 1))) (if (dayP (nI j) n ∧ dayP (nI 1) 2 ∧ dayP f 6) ∧ ¬ fd_b ((I 11 j >>> (f &&& 31)) &&& 1 = 1) = b then fd_up (fd_up I 11 j (I 11 j ^^^ (1 <<< (f &&& 31)))) 8 6 0 else I) L) := by
        intro v hv
        subst hv
        by_cases hb : fd_b ((I 11 j >>> (f &&& 31)) &&& 1 = 1) = b
        · rw [if_pos hb, if_neg (fun q => q.2 hb)]
          refine r_istore (lv' := [(6, _), (5, _), (0, _), (1, _), (3, _), (4, _)]) dX5_tellFact_60 (Nat.le_of_ble_eq_true rfl) rfl ?_
          refine r_iload dX5_tellFact_62 rfl ?_
          refine r_iload dX5_tellFact_64 rfl ?_
          refine r_icmp_ne 72 dX5_tellFact_66 (by decide) (fun h66 => absurd h66 (not_not_intro hb)) (fun h66 => ?_)
          refine r_bipush (v := (-3)) dX5_tellFact_69 rfl ?_
          refine r_iret rfl dX5_tellFact_71 ?_
          exact fd_isI rfl rfl rfl
        · rw [if_neg hb, if_pos ⟨hok, hb⟩]
          refine r_istore (lv' := [(6, _), (5, _), (0, _), (1, _), (3, _), (4, _)]) dX5_tellFact_60 (Nat.le_of_ble_eq_true rfl) rfl ?_
          refine r_iload dX5_tellFact_62 rfl ?_
          refine r_iload dX5_tellFact_64 rfl ?_
          refine r_icmp_ne 72 dX5_tellFact_66 (by decide) (fun h66 => ?_) (fun h66 => absurd h66 hb)
          refine r_aload dX5_tellFact_72 rfl ?_
          refine r_iload_n dX5_tellFact_74 rfl ?_
          refine r_dup2 dX5_tellFact_75 rfl rfl ?_
          refine r_ialdN rfl dX5_tellFact_76 (by omega) (by omega) rfl ?_
          refine r_iconst (v := 1) dX5_tellFact_77 rfl ?_
          refine r_iload_n dX5_tellFact_78 rfl ?_
          refine r_ishl dX5_tellFact_79 ?_
          refine r_ixor dX5_tellFact_80 ?_
          refine r_iastN rfl dX5_tellFact_81 (by omega) (by omega) ?_
          refine r_aload_n dX5_tellFact_82 rfl ?_
          refine r_iconst (v := 0) dX5_tellFact_83 rfl ?_
          refine r_putI rfl rfl fl_5_65 fw_5_6 dX5_tellFact_84 ?_
          refine r_iconst (v := 1) dX5_tellFact_87 rfl ?_
          refine r_iret rfl dX5_tellFact_88 ?_
          exact fd_isI rfl rfl rfl
      refine r_aload_n dX5_tellFact_0 rfl ?_
      refine r_iload_n dX5_tellFact_1 rfl ?_
      refine r_cVr (As := [_]) (c_X5_hasDay α _ _ _ hn hn7) lk_5_81 rfl rfl (by decide) (by decide) rfl rfl (Nat.le_of_ble_eq_true rfl) dX5_tellFact_2 ?_
      refine r_if_eq 24 dX5_tellFact_5 (by decide) (fun h5 => absurd h5 (fd_bn.mpr hok.1)) (fun h5 => ?_)
      refine r_iload_n dX5_tellFact_8 rfl ?_
      refine r_if_lt 24 dX5_tellFact_9 (by decide) (fun h9 => absurd h9 g9) (fun h9 => ?_)
      refine r_iload_n dX5_tellFact_12 rfl ?_
      refine r_iconst (v := 1) dX5_tellFact_13 rfl ?_
      refine r_icmp_gt 24 dX5_tellFact_14 (by decide) (fun h14 => absurd h14 g14) (fun h14 => ?_)
      refine r_iload_n dX5_tellFact_17 rfl ?_
      refine r_cNr (As := [_]) (c_X10_isFact α _ _ _) rfl (by decide) rfl rfl (Nat.le_of_ble_eq_true rfl) dX5_tellFact_18 ?_
      refine r_if_ne 27 dX5_tellFact_21 (by decide) (fun h21 => ?_) (fun h21 => absurd h21 (fd_bn.mpr hok.2.2))
      refine r_iload_n dX5_tellFact_27 rfl ?_
      refine r_if_ne 38 dX5_tellFact_28 (by decide) (fun h28 => ?_) (fun h28 => absurd h28 (by decide))
      refine r_aload_n dX5_tellFact_38 rfl ?_
      refine r_getR rfl rfl fl_5_18 dX5_tellFact_39 ?_
      refine r_astore (lv' := [(5, _), (0, _), (1, _), (2, _), (3, _), (4, _)]) dX5_tellFact_42 (Nat.le_of_ble_eq_true rfl) rfl ?_
      refine r_aload dX5_tellFact_44 rfl ?_
      refine r_iload_n dX5_tellFact_46 rfl ?_
      refine r_ialdN rfl dX5_tellFact_47 (by omega) (by omega) rfl ?_
      refine r_iload_n dX5_tellFact_48 rfl ?_
      refine r_ishr dX5_tellFact_49 ?_
      refine r_iconst (v := 1) dX5_tellFact_50 rfl ?_
      refine r_iand dX5_tellFact_51 ?_
      refine r_if_eq 59 dX5_tellFact_52 (by decide) (fun h52 => ?_) (fun h52 => ?_)
      · have ev : (0 : Int32) = fd_b ((I 11 j >>> (f &&& 31)) &&& 1 = 1) := (fd_b_f (fun q => absurd (h52.symm.trans q) (by decide))).symm
        refine r_iconst (v := 0) dX5_tellFact_59 rfl ?_
        exact r_keep [5, 0, 1, 3, 4] rfl (jn _ ev)
      · have ev : (1 : Int32) = fd_b ((I 11 j >>> (f &&& 31)) &&& 1 = 1) := (fd_b_t (biB_n.mp h52)).symm
        refine r_iconst (v := 1) dX5_tellFact_55 rfl ?_
        refine r_goto (tgt := 60) dX5_tellFact_56 (by decide) ?_
        exact r_keep [5, 0, 1, 3, 4] rfl (jn _ ev)
  · rw [if_neg hok, if_neg (fun q => hok q.1)]
    refine r_aload_n dX5_tellFact_0 rfl ?_
    refine r_iload_n dX5_tellFact_1 rfl ?_
    refine r_cVr (As := [_]) (c_X5_hasDay α _ _ _ hn hn7) lk_5_81 rfl rfl (by decide) (by decide) rfl rfl (Nat.le_of_ble_eq_true rfl) dX5_tellFact_2 ?_
    refine r_if_eq 24 dX5_tellFact_5 (by decide) (fun h5 => ?_) (fun h5 => ?_)
    · refine r_bipush (v := (-2)) dX5_tellFact_24 rfl ?_
      refine r_iret rfl dX5_tellFact_26 ?_
      exact fd_isI rfl rfl rfl
    · refine r_iload_n dX5_tellFact_8 rfl ?_
      refine r_if_lt 24 dX5_tellFact_9 (by decide) (fun h9 => ?_) (fun h9 => ?_)
      · refine r_bipush (v := (-2)) dX5_tellFact_24 rfl ?_
        refine r_iret rfl dX5_tellFact_26 ?_
        exact fd_isI rfl rfl rfl
      · refine r_iload_n dX5_tellFact_12 rfl ?_
        refine r_iconst (v := 1) dX5_tellFact_13 rfl ?_
        refine r_icmp_gt 24 dX5_tellFact_14 (by decide) (fun h14 => ?_) (fun h14 => ?_)
        · refine r_bipush (v := (-2)) dX5_tellFact_24 rfl ?_
          refine r_iret rfl dX5_tellFact_26 ?_
          exact fd_isI rfl rfl rfl
        · refine r_iload_n dX5_tellFact_17 rfl ?_
          refine r_cNr (As := [_]) (c_X10_isFact α _ _ _) rfl (by decide) rfl rfl (Nat.le_of_ble_eq_true rfl) dX5_tellFact_18 ?_
          refine r_if_ne 27 dX5_tellFact_21 (by decide) (fun h21 => absurd h21 (not_not_intro (fd_b0.mpr (fun q => hok ⟨fd_bn.mp h5, dayP_2 (n := 2) (by decide) h9 ((i_ltN (n := 2) (by decide)).mpr (by have := fun z => h14 ((Int32.lt_iff_toInt_lt (x := 1)).mpr z); exact Int.lt_of_le_of_lt (Int.not_lt.mp this) (by decide))), q⟩)))) (fun h21 => ?_)
          refine r_bipush (v := (-2)) dX5_tellFact_24 rfl ?_
          refine r_iret rfl dX5_tellFact_26 ?_
          exact fd_isI rfl rfl rfl
