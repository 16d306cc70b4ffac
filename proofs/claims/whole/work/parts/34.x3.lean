/-! the class: a life anew; notes and facts -/
def anI (I I' : fdI) (n : Int32) : Prop := (∀ a, a < 8 ∨ 13 < a → I' a = I a) ∧ I' 8 0 = n ∧ I' 8 1 = 0 ∧ I' 8 2 = 0 ∧ I' 8 3 = 0 ∧ I' 8 4 = 0 ∧ I' 8 5 = 0 ∧ I' 8 6 = 0 ∧ ∀ d, d < 7 → I' 9 d = 0 ∧ I' 10 d = 0 ∧ I' 11 d = 0 ∧ I' 12 d = -1 ∧ I' 13 d = -1
theorem c_X5_startAnew (α : Nat → Nat) (I : fdI) (L : fdL) (n : Int32) : Con fd_SX α yX5_startAnew mX5_startAnew [.ref (α 8), .int n] I L (fd_vp (fun I' L' => L' = L ∧ anI I I' n)) := by
  refine Con.of (by decide) rfl (Nat.le_of_ble_eq_true rfl) ?_
  have loop : ∀ k, k ≤ 7 → ∀ I1 : fdI, (∀ a, a < 8 ∨ 13 < a → I1 a = I a) → (I1 8 0 = n ∧ I1 8 1 = 0 ∧ I1 8 2 = 0 ∧ I1 8 3 = 0 ∧ I1 8 4 = 0 ∧ I1 8 5 = 0 ∧ I1 8 6 = 0) → (∀ d, d < k → I1 9 d = 0 ∧ I1 10 d = 0 ∧ I1 11 d = 0 ∧ I1 12 d = -1 ∧ I1 13 d = -1) →
      Rn fd_SX α mX5_startAnew 37 [(2, .int (nI k)), (0, .ref (α 8))] [] I1 L (fd_vp (fun I' L' => L' = L ∧ anI I I' n)) := by
    refine fd_down (fun k hk ih => ?_)
    intro I1 h1 h2 h3
    refine r_iload_n dX5_startAnew_37 rfl ?_
    refine r_bipush (v := 7) dX5_startAnew_38 rfl ?_
    refine r_icmp_ge 84 dX5_startAnew_40 (by decide) (fun h40 => ?_) (fun h40 => ?_)
    · have hh := (nI_leI (a := 7) (by omega) (by omega)).mp h40
      have e : k = 7 := by omega
      subst e
      refine r_vret rfl dX5_startAnew_84 ?_
      exact ⟨rfl, rfl, h1, h2.1, h2.2.1, h2.2.2.1, h2.2.2.2.1, h2.2.2.2.2.1, h2.2.2.2.2.2.1, h2.2.2.2.2.2.2, h3⟩
    · have hh : ¬ 7 ≤ k := fun q => h40 ((nI_leI (a := 7) (by omega) (by omega)).mpr q)
      refine r_aload_n dX5_startAnew_43 rfl ?_
      refine r_getR rfl rfl fl_5_9 dX5_startAnew_44 ?_
      refine r_iload_n dX5_startAnew_47 rfl ?_
      refine r_iconst (v := 0) dX5_startAnew_48 rfl ?_
      refine r_iastN rfl dX5_startAnew_49 (by omega) (by omega) ?_
      refine r_aload_n dX5_startAnew_50 rfl ?_
      refine r_getR rfl rfl fl_5_15 dX5_startAnew_51 ?_
      refine r_iload_n dX5_startAnew_54 rfl ?_
      refine r_iconst (v := 0) dX5_startAnew_55 rfl ?_
      refine r_iastN rfl dX5_startAnew_56 (by omega) (by omega) ?_
      refine r_aload_n dX5_startAnew_57 rfl ?_
      refine r_getR rfl rfl fl_5_18 dX5_startAnew_58 ?_
      refine r_iload_n dX5_startAnew_61 rfl ?_
      refine r_iconst (v := 0) dX5_startAnew_62 rfl ?_
      refine r_iastN rfl dX5_startAnew_63 (by omega) (by omega) ?_
      refine r_aload_n dX5_startAnew_64 rfl ?_
      refine r_getR rfl rfl fl_5_21 dX5_startAnew_65 ?_
      refine r_iload_n dX5_startAnew_68 rfl ?_
      refine r_iconst (v := (-1)) dX5_startAnew_69 rfl ?_
      refine r_iastN rfl dX5_startAnew_70 (by omega) (by omega) ?_
      refine r_aload_n dX5_startAnew_71 rfl ?_
      refine r_getR rfl rfl fl_5_24 dX5_startAnew_72 ?_
      refine r_iload_n dX5_startAnew_75 rfl ?_
      refine r_iconst (v := (-1)) dX5_startAnew_76 rfl ?_
      refine r_iastN rfl dX5_startAnew_77 (by omega) (by omega) ?_
      refine r_iinc (v := _ + 1) (lv' := [(2, _), (0, _)]) dX5_startAnew_78 rfl rfl (Nat.le_of_ble_eq_true rfl) rfl ?_
      refine r_goto (tgt := 37) dX5_startAnew_81 (by decide) ?_
      rw [nI_1]
      refine r_keep [2, 0] rfl (ih (by omega) _ (fun a ha => ?_) ?_ (fun d hd => ?_))
      · rw [fd_up_cell (by omega), fd_up_cell (by omega), fd_up_cell (by omega), fd_up_cell (by omega), fd_up_cell (by omega)]; exact h1 a ha
      · exact h2
      · by_cases q : d = k
        · subst q; simp [fd_up]
        · simp only [fd_up, q]; exact h3 d (by omega)
  refine r_aload_n dX5_startAnew_0 rfl ?_
  refine r_iload_n dX5_startAnew_1 rfl ?_
  refine r_putI rfl rfl fl_5_46 fw_5_0 dX5_startAnew_2 ?_
  refine r_aload_n dX5_startAnew_5 rfl ?_
  refine r_iconst (v := 0) dX5_startAnew_6 rfl ?_
  refine r_putI rfl rfl fl_5_50 fw_5_1 dX5_startAnew_7 ?_
  refine r_aload_n dX5_startAnew_10 rfl ?_
  refine r_iconst (v := 0) dX5_startAnew_11 rfl ?_
  refine r_putI rfl rfl fl_5_53 fw_5_2 dX5_startAnew_12 ?_
  refine r_aload_n dX5_startAnew_15 rfl ?_
  refine r_iconst (v := 0) dX5_startAnew_16 rfl ?_
  refine r_putI rfl rfl fl_5_56 fw_5_3 dX5_startAnew_17 ?_
  refine r_aload_n dX5_startAnew_20 rfl ?_
  refine r_iconst (v := 0) dX5_startAnew_21 rfl ?_
  refine r_putI rfl rfl fl_5_59 fw_5_4 dX5_startAnew_22 ?_
  refine r_aload_n dX5_startAnew_25 rfl ?_
  refine r_iconst (v := 0) dX5_startAnew_26 rfl ?_
  refine r_putI rfl rfl fl_5_62 fw_5_5 dX5_startAnew_27 ?_
  refine r_aload_n dX5_startAnew_30 rfl ?_
  refine r_iconst (v := 0) dX5_startAnew_31 rfl ?_
  refine r_putI rfl rfl fl_5_65 fw_5_6 dX5_startAnew_32 ?_
  refine r_iconst (v := 0) dX5_startAnew_35 rfl ?_
  refine r_istore_n (lv' := [(2, _), (0, _), (1, _)]) dX5_startAnew_36 (Nat.le_of_ble_eq_true rfl) rfl ?_
  refine r_keep [2, 0] rfl (loop 0 (by omega) _ (fun a ha => ?_) ?_ (fun d hd => by omega))
  · rw [fd_up_cell (by omega), fd_up_cell (by omega), fd_up_cell (by omega), fd_up_cell (by omega), fd_up_cell (by omega), fd_up_cell (by omega), fd_up_cell (by omega)]
  · simp [fd_up]
theorem c_X5_tellDays (α : Nat → Nat) (I : fdI) (L : fdL) (n : Int32) : Con fd_SX α yX5_tellDays mX5_tellDays [.ref (α 8), .int n] I L (fd_ip (fun v I' L' => L' = L ∧ (lifeP n → v = .int (I 8 0) ∧ anI I I' n) ∧ (¬ lifeP n → v = .int (-2) ∧ I' = I))) := by
  refine Con.of (by decide) rfl (Nat.le_of_ble_eq_true rfl) ?_
  by_cases hok : lifeP n
  · have q1 : ¬ n < 1 := fun q => absurd (Int32.lt_iff_toInt_lt.mp q) (Int.not_lt.mpr hok.1)
    have q2 : n ≤ 7 := Int32.le_iff_toInt_le.mpr hok.2
    refine r_iload_n dX5_tellDays_0 rfl ?_
    refine r_iconst (v := 1) dX5_tellDays_1 rfl ?_
    refine r_icmp_lt 11 dX5_tellDays_2 (by decide) (fun h2 => absurd h2 q1) (fun h2 => ?_)
    refine r_iload_n dX5_tellDays_5 rfl ?_
    refine r_bipush (v := 7) dX5_tellDays_6 rfl ?_
    refine r_icmp_le 14 dX5_tellDays_8 (by decide) (fun h8 => ?_) (fun h8 => absurd h8 (not_not_intro q2))
    refine r_aload_n dX5_tellDays_14 rfl ?_
    refine r_getI rfl rfl fl_5_46 dX5_tellDays_15 ?_
    refine r_istore_n (lv' := [(2, _), (0, _), (1, _)]) dX5_tellDays_18 (Nat.le_of_ble_eq_true rfl) rfl ?_
    refine r_aload_n dX5_tellDays_19 rfl ?_
    refine r_iload_n dX5_tellDays_20 rfl ?_
    refine r_cVq (As := [_]) (c_X5_startAnew α _ _ _) lk_5_42 rfl rfl (by decide) (by decide) rfl rfl (Nat.le_of_ble_eq_true rfl) dX5_tellDays_21 (fun I21 L21 q21 => ?_)
    refine r_iload_n dX5_tellDays_24 rfl ?_
    refine r_iret rfl dX5_tellDays_25 ?_
    exact ⟨_, rfl, q21.1, fun _ => ⟨rfl, q21.2⟩, fun q => absurd hok q⟩
  · refine r_iload_n dX5_tellDays_0 rfl ?_
    refine r_iconst (v := 1) dX5_tellDays_1 rfl ?_
    refine r_icmp_lt 11 dX5_tellDays_2 (by decide) (fun h2 => ?_) (fun h2 => ?_)
    · refine r_bipush (v := (-2)) dX5_tellDays_11 rfl ?_
      refine r_iret rfl dX5_tellDays_13 ?_
      exact ⟨_, rfl, rfl, fun q => absurd q hok, fun _ => ⟨rfl, rfl⟩⟩
    · refine r_iload_n dX5_tellDays_5 rfl ?_
      refine r_bipush (v := 7) dX5_tellDays_6 rfl ?_
      refine r_icmp_le 14 dX5_tellDays_8 (by decide) (fun h8 => absurd h8 (fun q => hok ⟨Int.not_lt.mp (fun z => h2 (Int32.lt_iff_toInt_lt.mpr z)), Int32.le_iff_toInt_le.mp q⟩)) (fun h8 => ?_)
      refine r_bipush (v := (-2)) dX5_tellDays_11 rfl ?_
      refine r_iret rfl dX5_tellDays_13 ?_
      exact ⟨_, rfl, rfl, fun q => absurd q hok, fun _ => ⟨rfl, rfl⟩⟩
/-- the facts noted on a day -/
def noV (V : pV) (d : Int32) : Nat → Int32 := orN (fun k => if V 6 k = d then 1 <<< (V 7 k &&& 31) else 0)
theorem c_X5_notedOn (α : Nat → Nat) (I : fdI) (L : fdL) (d : Int32) {nn : Nat} (hnn : I 8 1 = nI nn) (hn6 : nn ≤ 6) : Con fd_SX α yX5_notedOn mX5_notedOn [.ref (α 8), .int d] I L (fd_is (some (.int (noV (fun c => I (8 + c)) d nn))) I L) := by
  refine Con.of (by decide) rfl (Nat.le_of_ble_eq_true rfl) ?_
  have loop : ∀ k, k ≤ nn → Rn fd_SX α mX5_notedOn 4 [(3, .int (nI k)), (2, .int (noV (fun c => I (8 + c)) d k)), (0, .ref (α 8)), (1, .int d)] [] I L (fd_is (some (.int (noV (fun c => I (8 + c)) d nn))) I L) := by
    refine fd_down (fun k hk ih => ?_)
    refine r_iload_n dX5_notedOn_4 rfl ?_
    refine r_aload_n dX5_notedOn_5 rfl ?_
    refine r_getV rfl rfl fl_5_50 dX5_notedOn_6 hnn ?_
    refine r_icmp_ge 39 dX5_notedOn_9 (by decide) (fun h9 => ?_) (fun h9 => ?_)
    · have hh := (nI_leI (by omega) (by omega)).mp h9
      have e : k = nn := by omega
      subst e
      refine r_iload_n dX5_notedOn_39 rfl ?_
      refine r_iret rfl dX5_notedOn_40 ?_
      exact fd_isI rfl rfl rfl
    · have hh : k < nn := Nat.lt_of_not_le fun q => h9 ((nI_leI (by omega) (by omega)).mpr q)
      refine r_aload_n dX5_notedOn_12 rfl ?_
      refine r_getR rfl rfl fl_5_27 dX5_notedOn_13 ?_
      refine r_iload_n dX5_notedOn_16 rfl ?_
      refine r_ialdN rfl dX5_notedOn_17 (by omega) (by omega) rfl ?_
      refine r_iload_n dX5_notedOn_18 rfl ?_
      refine r_icmp_ne 33 dX5_notedOn_19 (by decide) (fun h19 => ?_) (fun h19 => ?_)
      · have ev : noV (fun c => I (8 + c)) d k = noV (fun c => I (8 + c)) d (k + 1) := by
          show _ = _ ||| (if I 14 k = d then _ else _)
          rw [if_neg h19, Int32.or_zero]
          rfl
        refine r_iinc (v := _ + 1) (lv' := [(3, _), (2, _), (0, _), (1, _)]) dX5_notedOn_33 rfl rfl (Nat.le_of_ble_eq_true rfl) rfl ?_
        refine r_goto (tgt := 4) dX5_notedOn_36 (by decide) ?_
        rw [nI_1, ev]
        exact r_keep [3, 2, 0, 1] rfl (ih hh)
      · have ev : noV (fun c => I (8 + c)) d k ||| 1 <<< (I 15 k &&& 31) = noV (fun c => I (8 + c)) d (k + 1) := by
          show _ = _ ||| (if I 14 k = d then _ else _)
          rw [if_pos h19]
          rfl
        refine r_iload_n dX5_notedOn_22 rfl ?_
        refine r_iconst (v := 1) dX5_notedOn_23 rfl ?_
        refine r_aload_n dX5_notedOn_24 rfl ?_
        refine r_getR rfl rfl fl_5_30 dX5_notedOn_25 ?_
        refine r_iload_n dX5_notedOn_28 rfl ?_
        refine r_ialdN rfl dX5_notedOn_29 (by omega) (by omega) rfl ?_
        refine r_ishl dX5_notedOn_30 ?_
        refine r_ior dX5_notedOn_31 ?_
        refine r_istore_n (lv' := [(2, _), (3, _), (0, _), (1, _)]) dX5_notedOn_32 (Nat.le_of_ble_eq_true rfl) rfl ?_
        refine r_iinc (v := _ + 1) (lv' := [(3, _), (2, _), (0, _), (1, _)]) dX5_notedOn_33 rfl rfl (Nat.le_of_ble_eq_true rfl) rfl ?_
        refine r_goto (tgt := 4) dX5_notedOn_36 (by decide) ?_
        rw [nI_1, ev]
        exact r_keep [3, 2, 0, 1] rfl (ih hh)
  refine r_iconst (v := 0) dX5_notedOn_0 rfl ?_
  refine r_istore_n (lv' := [(2, _), (0, _), (1, _)]) dX5_notedOn_1 (Nat.le_of_ble_eq_true rfl) rfl ?_
  refine r_iconst (v := 0) dX5_notedOn_2 rfl ?_
  refine r_istore_n (lv' := [(3, _), (2, _), (0, _), (1, _)]) dX5_notedOn_3 (Nat.le_of_ble_eq_true rfl) rfl ?_
  exact r_keep [3, 2, 0, 1] rfl (loop 0 (by omega))
/-- whether a set has a fact -/
abbrev biB (x f : Int32) : Prop := (x >>> (f &&& 31)) &&& 1 = 0
theorem i_or0 {x y : Int32} : x ||| y = 0 ↔ x = 0 ∧ y = 0 := by
  constructor
  · intro h
    have h2 : x.toBitVec ||| y.toBitVec = 0#32 := congrArg Int32.toBitVec h
    have e := BitVec.or_eq_zero_iff.mp h2
    exact ⟨Int32.toBitVec_inj.mp e.1, Int32.toBitVec_inj.mp e.2⟩
  · rintro ⟨rfl, rfl⟩; rfl
theorem i_or_shr {x y s : Int32} : (x ||| y) >>> s = x >>> s ||| y >>> s := by
  apply Int32.toBitVec_inj.mp
  show (x.toBitVec ||| y.toBitVec).sshiftRight _ = _
  rw [BitVec.sshiftRight_or_distrib]
  rfl
theorem i_or_and {x y z : Int32} : (x ||| y) &&& z = x &&& z ||| y &&& z := by
  apply Int32.toBitVec_inj.mp
  show (x.toBitVec ||| y.toBitVec) &&& z.toBitVec = (x.toBitVec &&& z.toBitVec) ||| (y.toBitVec &&& z.toBitVec)
  ext i hi
  simp only [BitVec.getElem_and, BitVec.getElem_or, Bool.and_or_distrib_right]
theorem biB_or {x y f : Int32} : biB (x ||| y) f ↔ biB x f ∧ biB y f := by
  show _ = _ ↔ _
  rw [i_or_shr, i_or_and, i_or0]
theorem biB_0 {f : Int32} (h : dayP f 6) : biB 0 f := by
  obtain ⟨j, hj, rfl⟩ := dayP_nI h
  rcases (show j = 0 ∨ j = 1 ∨ j = 2 ∨ j = 3 ∨ j = 4 ∨ j = 5 by omega) with rfl | rfl | rfl | rfl | rfl | rfl <;> decide
theorem biB_1 {f g : Int32} (h : dayP f 6) (hg : dayP g 6) : biB (1 <<< (g &&& 31)) f ↔ ¬ g = f := by
  obtain ⟨j, hj, rfl⟩ := dayP_nI h
  obtain ⟨i, hi, rfl⟩ := dayP_nI hg
  rcases (show j = 0 ∨ j = 1 ∨ j = 2 ∨ j = 3 ∨ j = 4 ∨ j = 5 by omega) with rfl | rfl | rfl | rfl | rfl | rfl <;> rcases (show i = 0 ∨ i = 1 ∨ i = 2 ∨ i = 3 ∨ i = 4 ∨ i = 5 by omega) with rfl | rfl | rfl | rfl | rfl | rfl <;> decide
theorem noV_bit {V : pV} {d f : Int32} {k : Nat} (hf : dayP f 6) (hV : ∀ i, i < k → dayP (V 7 i) 6) : biB (noV V d k) f ↔ orB (fun i => V 6 i = d && V 7 i = f) k = false := by
  induction k with
  | zero => exact ⟨fun _ => rfl, fun _ => biB_0 hf⟩
  | succ k ih =>
    have e : noV V d (k + 1) = noV V d k ||| (if V 6 k = d then 1 <<< (V 7 k &&& 31) else 0) := rfl
    rw [e, biB_or, ih (fun i hi => hV i (by omega))]
    show _ ↔ (orB _ k || _) = false
    rw [Bool.or_eq_false_iff]
    refine and_congr_right fun _ => ?_
    by_cases h6 : V 6 k = d
    · rw [if_pos h6, biB_1 hf (hV k (by omega))]
      simp [h6]
    · rw [if_neg h6]
      exact ⟨fun _ => by simp [h6], fun _ => biB_0 hf⟩
