/-! the class: note, fact, rows counted, torn out; an item -/
theorem c_X5_tellNote (α : Nat → Nat) (I : fdI) (L : fdL) (d f : Int32) {n nn : Nat} (hn : I 8 0 = nI n) (hn7 : 1 ≤ n ∧ n ≤ 7) (hnn : I 8 1 = nI nn) (hn6 : nn ≤ 6) (hV : ∀ i, i < nn → dayP (I 15 i) 6) : Con fd_SX α yX5_tellNote mX5_tellNote [.ref (α 8), .int d, .int f] I L (fd_is (some (.int (if dayP d n ∧ dayP f 6 then (if orB (fun i => I 14 i = d && I 15 i = f) nn = true then -3 else if nn = 6 then -4 else nI nn) else -2))) (if (dayP d n ∧ dayP f 6) ∧ orB (fun i => I 14 i = d && I 15 i = f) nn = false ∧ ¬ nn = 6 then fd_up (fd_up (fd_up (fd_up I 14 nn d) 15 nn f) 8 6 0) 8 1 (nI (nn + 1)) else I) L) := by
  refine Con.of (by decide) rfl (Nat.le_of_ble_eq_true rfl) ?_
  by_cases hok : dayP d n ∧ dayP f 6
  · rw [if_pos hok]
    have hb := noV_bit (V := fun c => I (8 + c)) (d := d) hok.2 hV
    change _ ↔ orB (fun i => I 14 i = d && I 15 i = f) nn = false at hb
    cases hq : orB (fun i => I 14 i = d && I 15 i = f) nn with
    | true =>
      rw [hq] at hb
      rw [if_pos rfl, if_neg (fun q => absurd q.2.1 (by decide))]
      refine r_aload_n dX5_tellNote_0 rfl ?_
      refine r_iload_n dX5_tellNote_1 rfl ?_
      refine r_cVr (As := [_]) (c_X5_hasDay α _ _ _ hn hn7) lk_5_81 rfl rfl (by decide) (by decide) rfl rfl (Nat.le_of_ble_eq_true rfl) dX5_tellNote_2 ?_
      refine r_if_eq 15 dX5_tellNote_5 (by decide) (fun h5 => absurd h5 (fd_bn.mpr hok.1)) (fun h5 => ?_)
      refine r_iload_n dX5_tellNote_8 rfl ?_
      refine r_cNr (As := [_]) (c_X10_isFact α _ _ _) rfl (by decide) rfl rfl (Nat.le_of_ble_eq_true rfl) dX5_tellNote_9 ?_
      refine r_if_ne 18 dX5_tellNote_12 (by decide) (fun h12 => ?_) (fun h12 => absurd h12 (fd_bn.mpr hok.2))
      refine r_aload_n dX5_tellNote_18 rfl ?_
      refine r_iload_n dX5_tellNote_19 rfl ?_
      refine r_cVr (As := [_]) (c_X5_notedOn α _ _ _ hnn hn6) lk_5_88 rfl rfl (by decide) (by decide) rfl rfl (Nat.le_of_ble_eq_true rfl) dX5_tellNote_20 ?_
      refine r_iload_n dX5_tellNote_23 rfl ?_
      refine r_ishr dX5_tellNote_24 ?_
      refine r_iconst (v := 1) dX5_tellNote_25 rfl ?_
      refine r_iand dX5_tellNote_26 ?_
      refine r_if_eq 33 dX5_tellNote_27 (by decide) (fun h27 => absurd h27 (fun q => absurd (hb.mp q) (by decide))) (fun h27 => ?_)
      refine r_bipush (v := (-3)) dX5_tellNote_30 rfl ?_
      refine r_iret rfl dX5_tellNote_32 ?_
      exact fd_isI rfl rfl rfl
    | false =>
      rw [hq] at hb
      rw [if_neg (by decide)]
      by_cases h6 : nn = 6
      · rw [if_pos h6, if_neg (fun q => q.2.2 h6)]
        subst h6
        refine r_aload_n dX5_tellNote_0 rfl ?_
        refine r_iload_n dX5_tellNote_1 rfl ?_
        refine r_cVr (As := [_]) (c_X5_hasDay α _ _ _ hn hn7) lk_5_81 rfl rfl (by decide) (by decide) rfl rfl (Nat.le_of_ble_eq_true rfl) dX5_tellNote_2 ?_
        refine r_if_eq 15 dX5_tellNote_5 (by decide) (fun h5 => absurd h5 (fd_bn.mpr hok.1)) (fun h5 => ?_)
        refine r_iload_n dX5_tellNote_8 rfl ?_
        refine r_cNr (As := [_]) (c_X10_isFact α _ _ _) rfl (by decide) rfl rfl (Nat.le_of_ble_eq_true rfl) dX5_tellNote_9 ?_
        refine r_if_ne 18 dX5_tellNote_12 (by decide) (fun h12 => ?_) (fun h12 => absurd h12 (fd_bn.mpr hok.2))
        refine r_aload_n dX5_tellNote_18 rfl ?_
        refine r_iload_n dX5_tellNote_19 rfl ?_
        refine r_cVr (As := [_]) (c_X5_notedOn α _ _ _ hnn hn6) lk_5_88 rfl rfl (by decide) (by decide) rfl rfl (Nat.le_of_ble_eq_true rfl) dX5_tellNote_20 ?_
        refine r_iload_n dX5_tellNote_23 rfl ?_
        refine r_ishr dX5_tellNote_24 ?_
        refine r_iconst (v := 1) dX5_tellNote_25 rfl ?_
        refine r_iand dX5_tellNote_26 ?_
        refine r_if_eq 33 dX5_tellNote_27 (by decide) (fun h27 => ?_) (fun h27 => absurd h27 (not_not_intro (hb.mpr rfl)))
        refine r_aload_n dX5_tellNote_33 rfl ?_
        refine r_getV rfl rfl fl_5_50 dX5_tellNote_34 hnn ?_
        refine r_bipush (v := 6) dX5_tellNote_37 rfl ?_
        refine r_icmp_lt 45 dX5_tellNote_39 (by decide) (fun h39 => absurd h39 (by decide)) (fun h39 => ?_)
        refine r_bipush (v := (-4)) dX5_tellNote_42 rfl ?_
        refine r_iret rfl dX5_tellNote_44 ?_
        exact fd_isI rfl rfl rfl
      · rw [if_neg h6, if_pos ⟨hok, rfl, h6⟩]
        refine r_aload_n dX5_tellNote_0 rfl ?_
        refine r_iload_n dX5_tellNote_1 rfl ?_
        refine r_cVr (As := [_]) (c_X5_hasDay α _ _ _ hn hn7) lk_5_81 rfl rfl (by decide) (by decide) rfl rfl (Nat.le_of_ble_eq_true rfl) dX5_tellNote_2 ?_
        refine r_if_eq 15 dX5_tellNote_5 (by decide) (fun h5 => absurd h5 (fd_bn.mpr hok.1)) (fun h5 => ?_)
        refine r_iload_n dX5_tellNote_8 rfl ?_
        refine r_cNr (As := [_]) (c_X10_isFact α _ _ _) rfl (by decide) rfl rfl (Nat.le_of_ble_eq_true rfl) dX5_tellNote_9 ?_
        refine r_if_ne 18 dX5_tellNote_12 (by decide) (fun h12 => ?_) (fun h12 => absurd h12 (fd_bn.mpr hok.2))
        refine r_aload_n dX5_tellNote_18 rfl ?_
        refine r_iload_n dX5_tellNote_19 rfl ?_
        refine r_cVr (As := [_]) (c_X5_notedOn α _ _ _ hnn hn6) lk_5_88 rfl rfl (by decide) (by decide) rfl rfl (Nat.le_of_ble_eq_true rfl) dX5_tellNote_20 ?_
        refine r_iload_n dX5_tellNote_23 rfl ?_
        refine r_ishr dX5_tellNote_24 ?_
        refine r_iconst (v := 1) dX5_tellNote_25 rfl ?_
        refine r_iand dX5_tellNote_26 ?_
        refine r_if_eq 33 dX5_tellNote_27 (by decide) (fun h27 => ?_) (fun h27 => absurd h27 (not_not_intro (hb.mpr rfl)))
        refine r_aload_n dX5_tellNote_33 rfl ?_
        refine r_getV rfl rfl fl_5_50 dX5_tellNote_34 hnn ?_
        refine r_bipush (v := 6) dX5_tellNote_37 rfl ?_
        refine r_icmp_lt 45 dX5_tellNote_39 (by decide) (fun h39 => ?_) (fun h39 => absurd h39 (not_not_intro ((nI_ltI (b := 6) (by omega) (by decide)).mpr (by omega))))
        refine r_aload_n dX5_tellNote_45 rfl ?_
        refine r_getR rfl rfl fl_5_27 dX5_tellNote_46 ?_
        refine r_aload_n dX5_tellNote_49 rfl ?_
        refine r_getV rfl rfl fl_5_50 dX5_tellNote_50 hnn ?_
        refine r_iload_n dX5_tellNote_53 rfl ?_
        refine r_iastN rfl dX5_tellNote_54 (by omega) (by omega) ?_
        refine r_aload_n dX5_tellNote_55 rfl ?_
        refine r_getR rfl rfl fl_5_30 dX5_tellNote_56 ?_
        refine r_aload_n dX5_tellNote_59 rfl ?_
        refine r_getV rfl rfl fl_5_50 dX5_tellNote_60 hnn ?_
        refine r_iload_n dX5_tellNote_63 rfl ?_
        refine r_iastN rfl dX5_tellNote_64 (by omega) (by omega) ?_
        refine r_aload_n dX5_tellNote_65 rfl ?_
        refine r_iconst (v := 0) dX5_tellNote_66 rfl ?_
        refine r_putI rfl rfl fl_5_65 fw_5_6 dX5_tellNote_67 ?_
        refine r_aload_n dX5_tellNote_70 rfl ?_
        refine r_dup dX5_tellNote_71 rfl ?_
        refine r_getV rfl rfl fl_5_50 dX5_tellNote_72 (Eq.trans (fd_up_pl (by decide)) hnn) ?_
        refine r_dup_x1 dX5_tellNote_75 rfl rfl ?_
        refine r_iconst (v := 1) dX5_tellNote_76 rfl ?_
        refine r_iadd dX5_tellNote_77 ?_
        rw [nI_1]
        refine r_putI rfl rfl fl_5_50 fw_5_1 dX5_tellNote_78 ?_
        refine r_iret rfl dX5_tellNote_81 ?_
        exact fd_isI rfl rfl rfl
  · rw [if_neg hok, if_neg (fun q => hok q.1)]
    refine r_aload_n dX5_tellNote_0 rfl ?_
    refine r_iload_n dX5_tellNote_1 rfl ?_
    refine r_cVr (As := [_]) (c_X5_hasDay α _ _ _ hn hn7) lk_5_81 rfl rfl (by decide) (by decide) rfl rfl (Nat.le_of_ble_eq_true rfl) dX5_tellNote_2 ?_
    refine r_if_eq 15 dX5_tellNote_5 (by decide) (fun h5 => ?_) (fun h5 => ?_)
    · refine r_bipush (v := (-2)) dX5_tellNote_15 rfl ?_
      refine r_iret rfl dX5_tellNote_17 ?_
      exact fd_isI rfl rfl rfl
    · refine r_iload_n dX5_tellNote_8 rfl ?_
      refine r_cNr (As := [_]) (c_X10_isFact α _ _ _) rfl (by decide) rfl rfl (Nat.le_of_ble_eq_true rfl) dX5_tellNote_9 ?_
      refine r_if_ne 18 dX5_tellNote_12 (by decide) (fun h12 => absurd h12 (not_not_intro (fd_b0.mpr (fun q => hok ⟨fd_bn.mp h5, q⟩)))) (fun h12 => ?_)
      refine r_bipush (v := (-2)) dX5_tellNote_15 rfl ?_
      refine r_iret rfl dX5_tellNote_17 ?_
      exact fd_isI rfl rfl rfl
theorem i_and1 (x : Int32) : x &&& 1 = 0 ∨ x &&& 1 = 1 := by
  cases h : x.toBitVec.getLsbD 0 with
  | false =>
    left
    apply Int32.toBitVec_inj.mp
    show x.toBitVec &&& 1#32 = 0#32
    ext i hi
    by_cases q : i = 0
    · subst q
      rw [BitVec.getElem_and, ← BitVec.getLsbD_eq_getElem, h]
      simp
    · simp [q]
  | true =>
    right
    apply Int32.toBitVec_inj.mp
    show x.toBitVec &&& 1#32 = 1#32
    ext i hi
    by_cases q : i = 0
    · subst q
      rw [BitVec.getElem_and, ← BitVec.getLsbD_eq_getElem, h]
      simp
    · simp [q]
theorem biB_n {x f : Int32} : ¬ biB x f ↔ (x >>> (f &&& 31)) &&& 1 = 1 := by
  rcases i_and1 (x >>> (f &&& 31)) with q | q
  · exact ⟨fun z => absurd q z, fun z => absurd (q.symm.trans z) (by decide)⟩
  · exact ⟨fun _ => q, fun _ z => absurd (q.symm.trans z) (by decide)⟩
theorem c_X5_toldInDiary (α : Nat → Nat) (I : fdI) (L : fdL) {n : Nat} (hn : I 8 0 = nI n) (hn7 : 1 ≤ n ∧ n ≤ 7) : Con fd_SX α yX5_toldInDiary mX5_toldInDiary [.ref (α 8)] I L (fd_is (some (.int (nI (cnN (fun k => !(I 13 k = -1)) n)))) I L) := by
  refine Con.of (by decide) rfl (Nat.le_of_ble_eq_true rfl) ?_
  have loop : ∀ k, k ≤ n → Rn fd_SX α mX5_toldInDiary 4 [(2, .int (nI k)), (1, .int (nI (cnN (fun k => !(I 13 k = -1)) k))), (0, .ref (α 8))] [] I L (fd_is (some (.int (nI (cnN (fun k => !(I 13 k = -1)) n)))) I L) := by
    refine fd_down (fun k hk ih => ?_)
    refine r_iload_n dX5_toldInDiary_4 rfl ?_
    refine r_aload_n dX5_toldInDiary_5 rfl ?_
    refine r_getV rfl rfl fl_5_46 dX5_toldInDiary_6 hn ?_
    refine r_icmp_ge 31 dX5_toldInDiary_9 (by decide) (fun h9 => ?_) (fun h9 => ?_)
    · have hh := (nI_leI (by omega) (by omega)).mp h9
      have e : k = n := by omega
      subst e
      refine r_iload_n dX5_toldInDiary_31 rfl ?_
      refine r_iret rfl dX5_toldInDiary_32 ?_
      exact fd_isI rfl rfl rfl
    · have hh : k < n := Nat.lt_of_not_le fun q => h9 ((nI_leI (by omega) (by omega)).mpr q)
      refine r_aload_n dX5_toldInDiary_12 rfl ?_
      refine r_getR rfl rfl fl_5_24 dX5_toldInDiary_13 ?_
      refine r_iload_n dX5_toldInDiary_16 rfl ?_
      refine r_ialdN rfl dX5_toldInDiary_17 (by omega) (by omega) rfl ?_
      refine r_iconst (v := (-1)) dX5_toldInDiary_18 rfl ?_
      refine r_icmp_eq 25 dX5_toldInDiary_19 (by decide) (fun h19 => ?_) (fun h19 => ?_)
      · have ev : cnN (fun k => !(I 13 k = -1)) (k + 1) = cnN (fun k => !(I 13 k = -1)) k := by simp [cnN, h19]
        refine r_iinc (v := _ + 1) (lv' := [(2, _), (1, _), (0, _)]) dX5_toldInDiary_25 rfl rfl (Nat.le_of_ble_eq_true rfl) rfl ?_
        refine r_goto (tgt := 4) dX5_toldInDiary_28 (by decide) ?_
        rw [nI_1, ← ev]
        exact r_keep [2, 1, 0] rfl (ih hh)
      · have ev : cnN (fun k => !(I 13 k = -1)) (k + 1) = cnN (fun k => !(I 13 k = -1)) k + 1 := by simp [cnN, h19]
        refine r_iinc (v := _ + 1) (lv' := [(1, _), (2, _), (0, _)]) dX5_toldInDiary_22 rfl rfl (Nat.le_of_ble_eq_true rfl) rfl ?_
        rw [nI_1]
        refine r_iinc (v := _ + 1) (lv' := [(2, _), (1, _), (0, _)]) dX5_toldInDiary_25 rfl rfl (Nat.le_of_ble_eq_true rfl) rfl ?_
        refine r_goto (tgt := 4) dX5_toldInDiary_28 (by decide) ?_
        rw [nI_1, ← ev]
        exact r_keep [2, 1, 0] rfl (ih hh)
  refine r_iconst (v := 0) dX5_toldInDiary_0 rfl ?_
  refine r_istore_n (lv' := [(1, _), (0, _)]) dX5_toldInDiary_1 (Nat.le_of_ble_eq_true rfl) rfl ?_
  refine r_iconst (v := 0) dX5_toldInDiary_2 rfl ?_
  refine r_istore_n (lv' := [(2, _), (1, _), (0, _)]) dX5_toldInDiary_3 (Nat.le_of_ble_eq_true rfl) rfl ?_
  exact r_keep [2, 1, 0] rfl (loop 0 (by omega))
/-- the count of a row of the life, by its number -/
def ctX (I : fdI) (n nn np nt rk : Nat) (k : Nat) : Int32 := if k = 0 then nI n else if k = 1 then nI nn else if k = 2 then nI np else if k = 3 then nI (cnN (fun k => !(I 13 k = -1)) n) else if k = 4 then nI nt else if k = 6 then nI rk else -2
theorem c_X5_countOfRow (α : Nat → Nat) (I : fdI) (L : fdL) (k : Nat) (hk : k < 7) {n nn np nt rk : Nat} (hn : I 8 0 = nI n) (hn7 : 1 ≤ n ∧ n ≤ 7) (hnn : I 8 1 = nI nn) (hnp : I 8 2 = nI np) (hnt : I 8 3 = nI nt) (hrk : I 8 4 = nI rk) : Con fd_SX α yX5_countOfRow mX5_countOfRow [.ref (α 8), .int (nI k)] I L (fd_is (some (.int (ctX I n nn np nt rk k))) I L) := by
  refine Con.of (by decide) rfl (Nat.le_of_ble_eq_true rfl) ?_
  rcases (show k = 0 ∨ k = 1 ∨ k = 2 ∨ k = 3 ∨ k = 4 ∨ k = 5 ∨ k = 6 by omega) with rfl | rfl | rfl | rfl | rfl | rfl | rfl
  · refine r_iload_n dX5_countOfRow_0 rfl ?_
    refine r_tswIn (tgt := 44) dX5_countOfRow_1 (by decide) (by decide) rfl (by decide) ?_
    refine r_aload_n dX5_countOfRow_44 rfl ?_
    refine r_getV rfl rfl fl_5_46 dX5_countOfRow_45 hn ?_
    refine r_iret rfl dX5_countOfRow_48 ?_
    exact fd_isI rfl rfl rfl
  · refine r_iload_n dX5_countOfRow_0 rfl ?_
    refine r_tswIn (tgt := 49) dX5_countOfRow_1 (by decide) (by decide) rfl (by decide) ?_
    refine r_aload_n dX5_countOfRow_49 rfl ?_
    refine r_getV rfl rfl fl_5_50 dX5_countOfRow_50 hnn ?_
    refine r_iret rfl dX5_countOfRow_53 ?_
    exact fd_isI rfl rfl rfl
  · refine r_iload_n dX5_countOfRow_0 rfl ?_
    refine r_tswIn (tgt := 54) dX5_countOfRow_1 (by decide) (by decide) rfl (by decide) ?_
    refine r_aload_n dX5_countOfRow_54 rfl ?_
    refine r_getV rfl rfl fl_5_53 dX5_countOfRow_55 hnp ?_
    refine r_iret rfl dX5_countOfRow_58 ?_
    exact fd_isI rfl rfl rfl
  · refine r_iload_n dX5_countOfRow_0 rfl ?_
    refine r_tswIn (tgt := 59) dX5_countOfRow_1 (by decide) (by decide) rfl (by decide) ?_
    refine r_aload_n dX5_countOfRow_59 rfl ?_
    refine r_cVr (As := []) (c_X5_toldInDiary α _ _ hn hn7) lk_5_118 rfl rfl (by decide) (by decide) rfl rfl (Nat.le_of_ble_eq_true rfl) dX5_countOfRow_60 ?_
    refine r_iret rfl dX5_countOfRow_63 ?_
    exact fd_isI rfl rfl rfl
  · refine r_iload_n dX5_countOfRow_0 rfl ?_
    refine r_tswIn (tgt := 64) dX5_countOfRow_1 (by decide) (by decide) rfl (by decide) ?_
    refine r_aload_n dX5_countOfRow_64 rfl ?_
    refine r_getV rfl rfl fl_5_56 dX5_countOfRow_65 hnt ?_
    refine r_iret rfl dX5_countOfRow_68 ?_
    exact fd_isI rfl rfl rfl
  · refine r_iload_n dX5_countOfRow_0 rfl ?_
    refine r_tswIn (tgt := 74) dX5_countOfRow_1 (by decide) (by decide) rfl (by decide) ?_
    refine r_bipush (v := (-2)) dX5_countOfRow_74 rfl ?_
    refine r_iret rfl dX5_countOfRow_76 ?_
    exact fd_isI rfl rfl rfl
  · refine r_iload_n dX5_countOfRow_0 rfl ?_
    refine r_tswIn (tgt := 69) dX5_countOfRow_1 (by decide) (by decide) rfl (by decide) ?_
    refine r_aload_n dX5_countOfRow_69 rfl ?_
    refine r_getV rfl rfl fl_5_59 dX5_countOfRow_70 hrk ?_
    refine r_iret rfl dX5_countOfRow_73 ?_
    exact fd_isI rfl rfl rfl
theorem c_X5_tearOut (α : Nat → Nat) (I : fdI) (L : fdL) (w : Int32) {n nn np nt rk : Nat} (hn : I 8 0 = nI n) (hn7 : 1 ≤ n ∧ n ≤ 7) (hnn : I 8 1 = nI nn) (hnp : I 8 2 = nI np) (hnt : I 8 3 = nI nt) (hrk : I 8 4 = nI rk) : Con fd_SX α yX5_tearOut mX5_tearOut [.ref (α 8), .int w] I L (fd_ip (fun v I' L' => L' = L ∧ (dayP w 4 → v = .int (if w = 0 then nI nn else if w = 1 then nI np else if w = 2 then nI (cnN (fun k => !(I 13 k = -1)) n) else nI nt) ∧ (if w = 0 then I' = fd_up (fd_up I 8 1 0) 8 6 0 else if w = 1 then I' = fd_up I 8 2 0 else if w = 2 then (∀ a, a ≠ 13 → I' a = I a) ∧ ∀ k, k < 7 → I' 13 k = -1 else I' = fd_up I 8 3 0)) ∧ (¬ dayP w 4 → v = .int (-2) ∧ I' = I))) := by
  refine Con.of (by decide) rfl (Nat.le_of_ble_eq_true rfl) ?_
  by_cases hok : dayP w 4
  · obtain ⟨j, hj, rfl⟩ := dayP_nI hok
    have g0 := dayP_n0 hok
    have g1 : nI j ≤ 3 := (nI_leI (b := 3) (by omega) (by decide)).mpr (by omega)
    rcases (show j = 0 ∨ j = 1 ∨ j = 2 ∨ j = 3 by omega) with rfl | rfl | rfl | rfl
    · refine r_iload_n dX5_tearOut_0 rfl ?_
      refine r_if_lt 9 dX5_tearOut_1 (by decide) (fun h1 => absurd h1 g0) (fun h1 => ?_)
      refine r_iload_n dX5_tearOut_4 rfl ?_
      refine r_iconst (v := 3) dX5_tearOut_5 rfl ?_
      refine r_icmp_le 12 dX5_tearOut_6 (by decide) (fun h6 => ?_) (fun h6 => absurd h6 (not_not_intro g1))
      refine r_aload_n dX5_tearOut_12 rfl ?_
      refine r_iload_n dX5_tearOut_13 rfl ?_
      refine r_iconst (v := 1) dX5_tearOut_14 rfl ?_
      refine r_iadd dX5_tearOut_15 ?_
      refine r_cVr (As := [_]) (c_X5_countOfRow (n := n) (nn := nn) (np := np) (nt := nt) (rk := rk) α _ _ 1 (by decide) hn hn7 hnn hnp hnt hrk) lk_5_95 rfl rfl (by decide) (by decide) rfl rfl (Nat.le_of_ble_eq_true rfl) dX5_tearOut_16 ?_
      refine r_istore_n (lv' := [(2, _), (0, _), (1, _)]) dX5_tearOut_19 (Nat.le_of_ble_eq_true rfl) rfl ?_
      refine r_iload_n dX5_tearOut_20 rfl ?_
      refine r_tswIn (tgt := 48) dX5_tearOut_21 (by decide) (by decide) rfl (by decide) ?_
      refine r_aload_n dX5_tearOut_48 rfl ?_
      refine r_iconst (v := 0) dX5_tearOut_49 rfl ?_
      refine r_putI rfl rfl fl_5_50 fw_5_1 dX5_tearOut_50 ?_
      refine r_aload_n dX5_tearOut_53 rfl ?_
      refine r_iconst (v := 0) dX5_tearOut_54 rfl ?_
      refine r_putI rfl rfl fl_5_65 fw_5_6 dX5_tearOut_55 ?_
      refine r_goto (tgt := 98) dX5_tearOut_58 (by decide) ?_
      refine r_iload_n dX5_tearOut_98 rfl ?_
      refine r_iret rfl dX5_tearOut_99 ?_
      exact ⟨_, rfl, rfl, fun _ => ⟨rfl, rfl⟩, fun q => absurd hok q⟩
    · refine r_iload_n dX5_tearOut_0 rfl ?_
      refine r_if_lt 9 dX5_tearOut_1 (by decide) (fun h1 => absurd h1 g0) (fun h1 => ?_)
      refine r_iload_n dX5_tearOut_4 rfl ?_
      refine r_iconst (v := 3) dX5_tearOut_5 rfl ?_
      refine r_icmp_le 12 dX5_tearOut_6 (by decide) (fun h6 => ?_) (fun h6 => absurd h6 (not_not_intro g1))
      refine r_aload_n dX5_tearOut_12 rfl ?_
      refine r_iload_n dX5_tearOut_13 rfl ?_
      refine r_iconst (v := 1) dX5_tearOut_14 rfl ?_
      refine r_iadd dX5_tearOut_15 ?_
      refine r_cVr (As := [_]) (c_X5_countOfRow (n := n) (nn := nn) (np := np) (nt := nt) (rk := rk) α _ _ 2 (by decide) hn hn7 hnn hnp hnt hrk) lk_5_95 rfl rfl (by decide) (by decide) rfl rfl (Nat.le_of_ble_eq_true rfl) dX5_tearOut_16 ?_
      refine r_istore_n (lv' := [(2, _), (0, _), (1, _)]) dX5_tearOut_19 (Nat.le_of_ble_eq_true rfl) rfl ?_
      refine r_iload_n dX5_tearOut_20 rfl ?_
      refine r_tswIn (tgt := 61) dX5_tearOut_21 (by decide) (by decide) rfl (by decide) ?_
      refine r_aload_n dX5_tearOut_61 rfl ?_
      refine r_iconst (v := 0) dX5_tearOut_62 rfl ?_
      refine r_putI rfl rfl fl_5_53 fw_5_2 dX5_tearOut_63 ?_
      refine r_goto (tgt := 98) dX5_tearOut_66 (by decide) ?_
      refine r_iload_n dX5_tearOut_98 rfl ?_
      refine r_iret rfl dX5_tearOut_99 ?_
      exact ⟨_, rfl, rfl, fun _ => ⟨rfl, rfl⟩, fun q => absurd hok q⟩
    · refine r_iload_n dX5_tearOut_0 rfl ?_
      refine r_if_lt 9 dX5_tearOut_1 (by decide) (fun h1 => absurd h1 g0) (fun h1 => ?_)
      refine r_iload_n dX5_tearOut_4 rfl ?_
      refine r_iconst (v := 3) dX5_tearOut_5 rfl ?_
      refine r_icmp_le 12 dX5_tearOut_6 (by decide) (fun h6 => ?_) (fun h6 => absurd h6 (not_not_intro g1))
      refine r_aload_n dX5_tearOut_12 rfl ?_
      refine r_iload_n dX5_tearOut_13 rfl ?_
      refine r_iconst (v := 1) dX5_tearOut_14 rfl ?_
      refine r_iadd dX5_tearOut_15 ?_
      refine r_cVr (As := [_]) (c_X5_countOfRow (n := n) (nn := nn) (np := np) (nt := nt) (rk := rk) α _ _ 3 (by decide) hn hn7 hnn hnp hnt hrk) lk_5_95 rfl rfl (by decide) (by decide) rfl rfl (Nat.le_of_ble_eq_true rfl) dX5_tearOut_16 ?_
      refine r_istore_n (lv' := [(2, _), (0, _), (1, _)]) dX5_tearOut_19 (Nat.le_of_ble_eq_true rfl) rfl ?_
      refine r_iload_n dX5_tearOut_20 rfl ?_
      refine r_tswIn (tgt := 69) dX5_tearOut_21 (by decide) (by decide) rfl (by decide) ?_
      have loop : ∀ k, k ≤ 7 → ∀ I1 : fdI, (∀ a, a ≠ 13 → I1 a = I a) → (∀ x, x < k → I1 13 x = -1) → Rn fd_SX α mX5_tearOut 71 [(3, .int (nI k)), (0, .ref (α 8)), (2, .int (nI (cnN (fun k => !(I 13 k = -1)) n)))] [] I1 L (fd_ip (fun v I' L' => L' = L ∧ (dayP (nI 2) 4 → v = .int (if (nI 2) = 0 then nI nn else if (nI 2) = 1 then nI np else if (nI 2) = 2 then nI (cnN (fun k => !(I 13 k = -1)) n) else nI nt) ∧ (if (nI 2) = 0 then I' = fd_up (fd_up I 8 1 0) 8 6 0 else if (nI 2) = 1 then I' = fd_up I 8 2 0 else if (nI 2) = 2 then (∀ a, a ≠ 13 → I' a = I a) ∧ ∀ k, k < 7 → I' 13 k = -1 else I' = fd_up I 8 3 0)) ∧ (¬ dayP (nI 2) 4 → v = .int (-2) ∧ I' = I))) := by
        refine fd_down (fun k hk ih => ?_)
        intro I1 f1 f2
        refine r_iload_n dX5_tearOut_71 rfl ?_
        refine r_bipush (v := 7) dX5_tearOut_72 rfl ?_
        refine r_icmp_ge 90 dX5_tearOut_74 (by decide) (fun h74 => ?_) (fun h74 => ?_)
        · have hh := (nI_leI (a := 7) (by omega) (by omega)).mp h74
          have e : k = 7 := by omega
          subst e
          refine r_goto (tgt := 98) dX5_tearOut_90 (by decide) ?_
          refine r_iload_n dX5_tearOut_98 rfl ?_
          refine r_iret rfl dX5_tearOut_99 ?_
          exact ⟨_, rfl, rfl, fun _ => ⟨rfl, f1, f2⟩, fun q => absurd hok q⟩
        · have hh : ¬ 7 ≤ k := fun q => h74 ((nI_leI (a := 7) (by omega) (by omega)).mpr q)
          refine r_aload_n dX5_tearOut_77 rfl ?_
          refine r_getR rfl rfl fl_5_24 dX5_tearOut_78 ?_
          refine r_iload_n dX5_tearOut_81 rfl ?_
          refine r_iconst (v := (-1)) dX5_tearOut_82 rfl ?_
          refine r_iastN rfl dX5_tearOut_83 (by omega) (by omega) ?_
          refine r_iinc (v := _ + 1) (lv' := [(3, _), (0, _), (2, _)]) dX5_tearOut_84 rfl rfl (Nat.le_of_ble_eq_true rfl) rfl ?_
          refine r_goto (tgt := 71) dX5_tearOut_87 (by decide) ?_
          rw [nI_1]
          refine r_keep [3, 0, 2] rfl (ih (by omega) _ (fun a ha => by rw [fd_up_cell ha]; exact f1 a ha) (fun x hx => ?_))
          by_cases q : x = k
          · rw [q, fd_up_same]
          · rw [fd_up_pl q]; exact f2 x (by omega)
      refine r_iconst (v := 0) dX5_tearOut_69 rfl ?_
      refine r_istore_n (lv' := [(3, _), (2, _), (0, _), (1, _)]) dX5_tearOut_70 (Nat.le_of_ble_eq_true rfl) rfl ?_
      exact r_keep [3, 0, 2] rfl (loop 0 (by omega) _ (fun _ _ => rfl) (fun x hx => by omega))
    · refine r_iload_n dX5_tearOut_0 rfl ?_
      refine r_if_lt 9 dX5_tearOut_1 (by decide) (fun h1 => absurd h1 g0) (fun h1 => ?_)
      refine r_iload_n dX5_tearOut_4 rfl ?_
      refine r_iconst (v := 3) dX5_tearOut_5 rfl ?_
      refine r_icmp_le 12 dX5_tearOut_6 (by decide) (fun h6 => ?_) (fun h6 => absurd h6 (not_not_intro g1))
      refine r_aload_n dX5_tearOut_12 rfl ?_
      refine r_iload_n dX5_tearOut_13 rfl ?_
      refine r_iconst (v := 1) dX5_tearOut_14 rfl ?_
      refine r_iadd dX5_tearOut_15 ?_
      refine r_cVr (As := [_]) (c_X5_countOfRow (n := n) (nn := nn) (np := np) (nt := nt) (rk := rk) α _ _ 4 (by decide) hn hn7 hnn hnp hnt hrk) lk_5_95 rfl rfl (by decide) (by decide) rfl rfl (Nat.le_of_ble_eq_true rfl) dX5_tearOut_16 ?_
      refine r_istore_n (lv' := [(2, _), (0, _), (1, _)]) dX5_tearOut_19 (Nat.le_of_ble_eq_true rfl) rfl ?_
      refine r_iload_n dX5_tearOut_20 rfl ?_
      refine r_tswOut (tgt := 93) dX5_tearOut_21 (Or.inr (by decide)) (by decide) ?_
      refine r_aload_n dX5_tearOut_93 rfl ?_
      refine r_iconst (v := 0) dX5_tearOut_94 rfl ?_
      refine r_putI rfl rfl fl_5_56 fw_5_3 dX5_tearOut_95 ?_
      refine r_iload_n dX5_tearOut_98 rfl ?_
      refine r_iret rfl dX5_tearOut_99 ?_
      exact ⟨_, rfl, rfl, fun _ => ⟨rfl, rfl⟩, fun q => absurd hok q⟩
  · refine r_iload_n dX5_tearOut_0 rfl ?_
    refine r_if_lt 9 dX5_tearOut_1 (by decide) (fun h1 => ?_) (fun h1 => ?_)
    · refine r_bipush (v := (-2)) dX5_tearOut_9 rfl ?_
      refine r_iret rfl dX5_tearOut_11 ?_
      exact ⟨_, rfl, rfl, fun q => absurd q hok, fun _ => ⟨rfl, rfl⟩⟩
    · refine r_iload_n dX5_tearOut_4 rfl ?_
      refine r_iconst (v := 3) dX5_tearOut_5 rfl ?_
      refine r_icmp_le 12 dX5_tearOut_6 (by decide) (fun h6 => absurd h6 (fun q => hok ⟨Int.not_lt.mp (fun z => h1 (i_lt0.mpr z)), Int.lt_of_le_of_lt (Int32.le_iff_toInt_le.mp q) (by decide)⟩)) (fun h6 => ?_)
      refine r_bipush (v := (-2)) dX5_tearOut_9 rfl ?_
      refine r_iret rfl dX5_tearOut_11 ?_
      exact ⟨_, rfl, rfl, fun q => absurd q hok, fun _ => ⟨rfl, rfl⟩⟩
