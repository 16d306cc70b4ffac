/-! the model: what is told -/
abbrev mBad (I : fdI) : fdI := fd_up I 1 0 (I 1 0 + 1)
abbrev mNo (I : fdI) : fdI := fd_up I 1 1 (I 1 1 + 1)
abbrev mFull (I : fdI) : fdI := fd_up I 1 2 (I 1 2 + 1)
theorem fd_bc {c c' : Prop} [Decidable c] [Decidable c'] (h : c ↔ c') : fd_b c = fd_b c' := by
  unfold fd_b
  by_cases q : c
  · rw [if_pos q, if_pos (h.mp q)]
  · rw [if_neg q, if_neg (fun z => q (h.mpr z))]
theorem c_inP {S : List fdE} (α : Nat → Nat) (I : fdI) (L : fdL) (v : Int32) (a b : Int64) (P : Prop) [Decidable P] (h : (a.toInt ≤ v.toInt ∧ v.toInt ≤ b.toInt) ↔ P) : Con S α yX11_in mX11_in [.long v.toInt64, .long a, .long b] I L (fd_is (some (.int (fd_b P))) I L) := by
  have k := c_X11_in (S := S) α I L v.toInt64 a b
  rw [show fd_b (a ≤ v.toInt64 ∧ v.toInt64 ≤ b) = fd_b P from fd_bc (by rw [Int64.le_iff_toInt_le, Int64.le_iff_toInt_le, Int32.toInt_toInt64]; exact h)] at k
  exact k
theorem c_in1 {S : List fdE} (α : Nat → Nat) (I : fdI) (L : fdL) (v : Int32) : Con S α yX11_in mX11_in [.long v.toInt64, .long 0, .long 1] I L (fd_is (some (.int (fd_b (dayP v 2)))) I L) := c_inP α I L v 0 1 _ (by show (0 : Int) ≤ _ ∧ _ ≤ (1 : Int) ↔ (0 : Int) ≤ _ ∧ _ < (2 : Int); omega)
theorem c_in2 {S : List fdE} (α : Nat → Nat) (I : fdI) (L : fdL) (v : Int32) : Con S α yX11_in mX11_in [.long v.toInt64, .long 0, .long 2] I L (fd_is (some (.int (fd_b (dayP v 3)))) I L) := c_inP α I L v 0 2 _ (by show (0 : Int) ≤ _ ∧ _ ≤ (2 : Int) ↔ (0 : Int) ≤ _ ∧ _ < (3 : Int); omega)
theorem c_in3 {S : List fdE} (α : Nat → Nat) (I : fdI) (L : fdL) (v : Int32) : Con S α yX11_in mX11_in [.long v.toInt64, .long 0, .long 3] I L (fd_is (some (.int (fd_b (dayP v 4)))) I L) := c_inP α I L v 0 3 _ (by show (0 : Int) ≤ _ ∧ _ ≤ (3 : Int) ↔ (0 : Int) ≤ _ ∧ _ < (4 : Int); omega)
theorem c_in5 {S : List fdE} (α : Nat → Nat) (I : fdI) (L : fdL) (v : Int32) : Con S α yX11_in mX11_in [.long v.toInt64, .long 0, .long 5] I L (fd_is (some (.int (fd_b (dayP v 6)))) I L) := c_inP α I L v 0 5 _ (by show (0 : Int) ≤ _ ∧ _ ≤ (5 : Int) ↔ (0 : Int) ≤ _ ∧ _ < (6 : Int); omega)
theorem c_in6 {S : List fdE} (α : Nat → Nat) (I : fdI) (L : fdL) (v : Int32) : Con S α yX11_in mX11_in [.long v.toInt64, .long 0, .long 6] I L (fd_is (some (.int (fd_b (dayP v 7)))) I L) := c_inP α I L v 0 6 _ (by show (0 : Int) ≤ _ ∧ _ ≤ (6 : Int) ↔ (0 : Int) ≤ _ ∧ _ < (7 : Int); omega)
theorem c_in63 {S : List fdE} (α : Nat → Nat) (I : fdI) (L : fdL) (v : Int32) : Con S α yX11_in mX11_in [.long v.toInt64, .long 0, .long 63] I L (fd_is (some (.int (fd_b (dayP v 64)))) I L) := c_inP α I L v 0 63 _ (by show (0 : Int) ≤ _ ∧ _ ≤ (63 : Int) ↔ (0 : Int) ≤ _ ∧ _ < (64 : Int); omega)
theorem c_in127 {S : List fdE} (α : Nat → Nat) (I : fdI) (L : fdL) (v : Int32) : Con S α yX11_in mX11_in [.long v.toInt64, .long 0, .long 127] I L (fd_is (some (.int (fd_b (dayP v 128)))) I L) := c_inP α I L v 0 127 _ (by show (0 : Int) ≤ _ ∧ _ ≤ (127 : Int) ↔ (0 : Int) ≤ _ ∧ _ < (128 : Int); omega)
abbrev setP (v : Int32) : Prop := -1 ≤ v.toInt ∧ v.toInt < 64
theorem c_inS {S : List fdE} (α : Nat → Nat) (I : fdI) (L : fdL) (v : Int32) : Con S α yX11_in mX11_in [.long v.toInt64, .long (-1), .long 63] I L (fd_is (some (.int (fd_b (setP v)))) I L) := c_inP α I L v (-1) 63 _ (by show (-1 : Int) ≤ _ ∧ _ ≤ (63 : Int) ↔ (-1 : Int) ≤ _ ∧ _ < (64 : Int); omega)
abbrev lifeP (v : Int32) : Prop := 1 ≤ v.toInt ∧ v.toInt ≤ 7
theorem c_in17 {S : List fdE} (α : Nat → Nat) (I : fdI) (L : fdL) (v : Int32) : Con S α yX11_in mX11_in [.long v.toInt64, .long 1, .long 7] I L (fd_is (some (.int (fd_b (lifeP v)))) I L) := c_inP α I L v 1 7 _ (by show (1 : Int) ≤ _ ∧ _ ≤ (7 : Int) ↔ _; exact Iff.rfl)
/-- a new life of n days: what the cells hold then -/
def bgI (I I' : fdI) (n : Int32) : Prop := (∀ a, a ≠ 0 → a ≠ 2 → a ≠ 3 → a ≠ 4 → a ≠ 5 → a ≠ 6 → a ≠ 12 → I' a = I a) ∧ (∀ j, j ≠ 1 → j ≠ 7 → j ≠ 10 → j ≠ 13 → j ≠ 16 → j ≠ 17 → I' 0 j = I 0 j) ∧ I' 0 1 = n ∧ I' 0 7 = 0 ∧ I' 0 10 = 0 ∧ I' 0 13 = 0 ∧ I' 0 16 = 0 ∧ I' 0 17 = 0 ∧ ∀ d, d < 7 → I' 2 d = 0 ∧ I' 3 d = 0 ∧ I' 4 d = 0 ∧ I' 5 d = -1 ∧ I' 6 d = nI d ∧ I' 12 d = -1
theorem c_X11_begins {S : List fdE} (hS : S = fd_SM) (α : Nat → Nat) (I : fdI) (L : fdL) (n : Int32) : Con S α yX11_begins mX11_begins [.ref (α 0), .int n] I L (fd_vp (fun I' L' => L' = L ∧ bgI I I' n)) := by
  subst hS
  refine Con.of (by decide) rfl (Nat.le_of_ble_eq_true rfl) ?_
  have loop : ∀ k, k ≤ 7 → ∀ I1 : fdI, (∀ a, a ≠ 0 → a ≠ 2 → a ≠ 3 → a ≠ 4 → a ≠ 5 → a ≠ 6 → a ≠ 12 → I1 a = I a) → (∀ j, j ≠ 1 → I1 0 j = I 0 j) → I1 0 1 = n → (∀ d, d < k → I1 2 d = 0 ∧ I1 3 d = 0 ∧ I1 4 d = 0 ∧ I1 5 d = -1 ∧ I1 6 d = nI d ∧ I1 12 d = -1) →
      Rn fd_SM α mX11_begins 7 [(2, .int (nI k)), (0, .ref (α 0))] [] I1 L (fd_vp (fun I' L' => L' = L ∧ bgI I I' n)) := by
    refine fd_down (fun k hk ih => ?_)
    intro I1 h1 h2 h3 h4
    refine r_iload_n dX11_begins_7 rfl ?_
    refine r_bipush (v := 7) dX11_begins_8 rfl ?_
    refine r_icmp_ge 61 dX11_begins_10 (by decide) (fun h10 => ?_) (fun h10 => ?_)
    · have hh := (nI_leI (a := 7) (by omega) (by omega)).mp h10
      have e : k = 7 := by omega
      subst e
      refine r_aload_n dX11_begins_61 rfl ?_
      refine r_iconst (v := 0) dX11_begins_62 rfl ?_
      refine r_putI rfl rfl fl_11_103 fw_11_7 dX11_begins_63 ?_
      refine r_aload_n dX11_begins_66 rfl ?_
      refine r_iconst (v := 0) dX11_begins_67 rfl ?_
      refine r_putI rfl rfl fl_11_106 fw_11_10 dX11_begins_68 ?_
      refine r_aload_n dX11_begins_71 rfl ?_
      refine r_iconst (v := 0) dX11_begins_72 rfl ?_
      refine r_putI rfl rfl fl_11_109 fw_11_13 dX11_begins_73 ?_
      refine r_aload_n dX11_begins_76 rfl ?_
      refine r_iconst (v := 0) dX11_begins_77 rfl ?_
      refine r_putI rfl rfl fl_11_112 fw_11_16 dX11_begins_78 ?_
      refine r_aload_n dX11_begins_81 rfl ?_
      refine r_iconst (v := 0) dX11_begins_82 rfl ?_
      refine r_putI rfl rfl fl_11_115 fw_11_17 dX11_begins_83 ?_
      refine r_vret rfl dX11_begins_86 ?_
      refine ⟨rfl, rfl, fun a a0 a1 a2 a3 a4 a5 a6 => ?_, fun j j1 j2 j3 j4 j5 j6 => ?_, ?_, ?_, ?_, ?_, ?_, ?_, fun d hd => ?_⟩
      · simp only [fd_up_cell a0]; exact h1 a a0 a1 a2 a3 a4 a5 a6
      · simp only [fd_up, if_true, j1, j2, j3, j4, j5, j6, if_false]; exact h2 j j1
      · simp only [fd_up, if_true]; exact h3
      · simp [fd_up]
      · simp [fd_up]
      · simp [fd_up]
      · simp [fd_up]
      · simp [fd_up]
      · simp only [fd_up]; exact h4 d hd
    · have hh : ¬ 7 ≤ k := fun q => h10 ((nI_leI (a := 7) (by omega) (by omega)).mpr q)
      refine r_aload_n dX11_begins_13 rfl ?_
      refine r_getR rfl rfl fl_11_13 dX11_begins_14 ?_
      refine r_iload_n dX11_begins_17 rfl ?_
      refine r_iconst (v := 0) dX11_begins_18 rfl ?_
      refine r_iastN rfl dX11_begins_19 (by omega) (by omega) ?_
      refine r_aload_n dX11_begins_20 rfl ?_
      refine r_getR rfl rfl fl_11_16 dX11_begins_21 ?_
      refine r_iload_n dX11_begins_24 rfl ?_
      refine r_iconst (v := 0) dX11_begins_25 rfl ?_
      refine r_iastN rfl dX11_begins_26 (by omega) (by omega) ?_
      refine r_aload_n dX11_begins_27 rfl ?_
      refine r_getR rfl rfl fl_11_19 dX11_begins_28 ?_
      refine r_iload_n dX11_begins_31 rfl ?_
      refine r_iconst (v := 0) dX11_begins_32 rfl ?_
      refine r_iastN rfl dX11_begins_33 (by omega) (by omega) ?_
      refine r_aload_n dX11_begins_34 rfl ?_
      refine r_getR rfl rfl fl_11_22 dX11_begins_35 ?_
      refine r_iload_n dX11_begins_38 rfl ?_
      refine r_iconst (v := (-1)) dX11_begins_39 rfl ?_
      refine r_iastN rfl dX11_begins_40 (by omega) (by omega) ?_
      refine r_aload_n dX11_begins_41 rfl ?_
      refine r_getR rfl rfl fl_11_25 dX11_begins_42 ?_
      refine r_iload_n dX11_begins_45 rfl ?_
      refine r_iload_n dX11_begins_46 rfl ?_
      refine r_iastN rfl dX11_begins_47 (by omega) (by omega) ?_
      refine r_aload_n dX11_begins_48 rfl ?_
      refine r_getR rfl rfl fl_11_43 dX11_begins_49 ?_
      refine r_iload_n dX11_begins_52 rfl ?_
      refine r_iconst (v := (-1)) dX11_begins_53 rfl ?_
      refine r_iastN rfl dX11_begins_54 (by omega) (by omega) ?_
      refine r_iinc (v := _ + 1) (lv' := [(2, _), (0, _)]) dX11_begins_55 rfl rfl (Nat.le_of_ble_eq_true rfl) rfl ?_
      refine r_goto (tgt := 7) dX11_begins_58 (by decide) ?_
      rw [nI_1]
      refine r_keep [2, 0] rfl (ih (by omega) _ (fun a a0 a1 a2 a3 a4 a5 a6 => ?_) (fun j j1 => ?_) ?_ (fun d hd => ?_))
      · simp only [fd_up_cell a1, fd_up_cell a2, fd_up_cell a3, fd_up_cell a4, fd_up_cell a5, fd_up_cell a6]; exact h1 a a0 a1 a2 a3 a4 a5 a6
      · exact h2 j j1
      · exact h3
      · by_cases q : d = k
        · subst q; simp [fd_up]
        · simp only [fd_up, q]; exact h4 d (by omega)
  refine r_aload_n dX11_begins_0 rfl ?_
  refine r_iload_n dX11_begins_1 rfl ?_
  refine r_putI rfl rfl fl_11_93 fw_11_1 dX11_begins_2 ?_
  refine r_iconst (v := 0) dX11_begins_5 rfl ?_
  refine r_istore_n (lv' := [(2, _), (0, _), (1, _)]) dX11_begins_6 (Nat.le_of_ble_eq_true rfl) rfl ?_
  exact r_keep [2, 0] rfl (loop 0 (by omega) _ (fun a a0 _ _ _ _ _ _ => by rw [fd_up_cell a0]) (fun j j1 => by rw [fd_up_pl j1]) fd_up_same (fun d hd => by omega))
theorem c_X11_life (α : Nat → Nat) (I : fdI) (L : fdL) (n : Int32) : Con fd_SM α yX11_life mX11_life [.ref (α 0), .int n] I L (fd_ip (fun v I' L' => L' = L ∧ (lifeP n → v = .int (I 0 1) ∧ bgI I I' n) ∧ (¬ lifeP n → v = .int (-2) ∧ I' = mBad I))) := by
  refine Con.of (by decide) rfl (Nat.le_of_ble_eq_true rfl) ?_
  by_cases hok : lifeP n
  · refine r_iload_n dX11_life_0 rfl ?_
    refine r_i2l dX11_life_1 rfl ?_
    refine r_lconst (v := 1) dX11_life_2 rfl ?_
    refine r_ldc2 (v := (7 : Int64)) (fd_in 1056 (by decide +kernel) (by decide +kernel)) dX11_life_3 ?_
    refine r_cSr (As := [_, _, _]) (c_in17 α _ _ _) lk_11_97 (by decide) (by decide) rfl rfl (Nat.le_of_ble_eq_true rfl) dX11_life_6 ?_
    refine r_if_ne 19 dX11_life_9 (by decide) (fun h9 => ?_) (fun h9 => absurd h9 (fd_bn.mpr hok))
    refine r_aload_n dX11_life_19 rfl ?_
    refine r_getI rfl rfl fl_11_93 dX11_life_20 ?_
    refine r_istore_n (lv' := [(2, _), (0, _), (1, _)]) dX11_life_23 (Nat.le_of_ble_eq_true rfl) rfl ?_
    refine r_aload_n dX11_life_24 rfl ?_
    refine r_iload_n dX11_life_25 rfl ?_
    refine r_cVq (As := [_]) (c_X11_begins rfl α _ _ _) lk_11_82 rfl rfl (by decide) (by decide) rfl rfl (Nat.le_of_ble_eq_true rfl) dX11_life_26 (fun I26 L26 q26 => ?_)
    refine r_iload_n dX11_life_29 rfl ?_
    refine r_iret rfl dX11_life_30 ?_
    exact ⟨_, rfl, q26.1, fun _ => ⟨rfl, q26.2⟩, fun q => absurd hok q⟩
  · refine r_iload_n dX11_life_0 rfl ?_
    refine r_i2l dX11_life_1 rfl ?_
    refine r_lconst (v := 1) dX11_life_2 rfl ?_
    refine r_ldc2 (v := (7 : Int64)) (fd_in 1056 (by decide +kernel) (by decide +kernel)) dX11_life_3 ?_
    refine r_cSr (As := [_, _, _]) (c_in17 α _ _ _) lk_11_97 (by decide) (by decide) rfl rfl (Nat.le_of_ble_eq_true rfl) dX11_life_6 ?_
    refine r_if_ne 19 dX11_life_9 (by decide) (fun h9 => absurd h9 (not_not_intro (fd_b0.mpr hok))) (fun h9 => ?_)
    refine r_aload_n dX11_life_12 rfl ?_
    refine r_bipush (v := (-2)) dX11_life_13 rfl ?_
    refine r_cVr (As := [_]) (c_X11_bad α _ _ _) lk_11_120 rfl rfl (by decide) (by decide) rfl rfl (Nat.le_of_ble_eq_true rfl) dX11_life_15 ?_
    refine r_iret rfl dX11_life_18 ?_
    exact ⟨_, rfl, rfl, fun q => absurd q hok, fun _ => ⟨rfl, rfl⟩⟩
theorem c_X11_day (α : Nat → Nat) (I : fdI) (L : fdL) (d kind : Int32) {n : Nat} (hn : I 0 1 = nI n) (hn7 : 1 ≤ n ∧ n ≤ 7) : Con fd_SM α yX11_day mX11_day [.ref (α 0), .int d, .int kind] I L (fd_is (some (.int (if dayP d n ∧ dayP kind 6 then I 2 d.toNatClampNeg else -2))) (if dayP d n ∧ dayP kind 6 then fd_up (fd_up I 2 d.toNatClampNeg kind) 0 17 0 else mBad I) L) := by
  refine Con.of (by decide) rfl (Nat.le_of_ble_eq_true rfl) ?_
  by_cases hok : dayP d n ∧ dayP kind 6
  · rw [if_pos hok, if_pos hok]
    obtain ⟨j, hj, rfl⟩ := dayP_nI hok.1
    rw [nI_clamp (by omega)]
    refine r_aload_n dX11_day_0 rfl ?_
    refine r_iload_n dX11_day_1 rfl ?_
    refine r_cVr (As := [_]) (c_X11_isDay α _ _ _ hn hn7) lk_11_124 rfl rfl (by decide) (by decide) rfl rfl (Nat.le_of_ble_eq_true rfl) dX11_day_2 ?_
    refine r_if_eq 20 dX11_day_5 (by decide) (fun h5 => absurd h5 (fd_bn.mpr hok.1)) (fun h5 => ?_)
    refine r_iload_n dX11_day_8 rfl ?_
    refine r_i2l dX11_day_9 rfl ?_
    refine r_lconst (v := 0) dX11_day_10 rfl ?_
    refine r_ldc2 (v := (5 : Int64)) (fd_in 1072 (by decide +kernel) (by decide +kernel)) dX11_day_11 ?_
    refine r_cSr (As := [_, _, _]) (c_in5 α _ _ _) lk_11_97 (by decide) (by decide) rfl rfl (Nat.le_of_ble_eq_true rfl) dX11_day_14 ?_
    refine r_if_ne 27 dX11_day_17 (by decide) (fun h17 => ?_) (fun h17 => absurd h17 (fd_bn.mpr hok.2))
    refine r_aload_n dX11_day_27 rfl ?_
    refine r_getR rfl rfl fl_11_13 dX11_day_28 ?_
    refine r_iload_n dX11_day_31 rfl ?_
    refine r_ialdN rfl dX11_day_32 (by omega) (by omega) rfl ?_
    refine r_istore_n (lv' := [(3, _), (0, _), (1, _), (2, _)]) dX11_day_33 (Nat.le_of_ble_eq_true rfl) rfl ?_
    refine r_aload_n dX11_day_34 rfl ?_
    refine r_getR rfl rfl fl_11_13 dX11_day_35 ?_
    refine r_iload_n dX11_day_38 rfl ?_
    refine r_iload_n dX11_day_39 rfl ?_
    refine r_iastN rfl dX11_day_40 (by omega) (by omega) ?_
    refine r_aload_n dX11_day_41 rfl ?_
    refine r_iconst (v := 0) dX11_day_42 rfl ?_
    refine r_putI rfl rfl fl_11_115 fw_11_17 dX11_day_43 ?_
    refine r_iload_n dX11_day_46 rfl ?_
    refine r_iret rfl dX11_day_47 ?_
    exact fd_isI rfl rfl rfl
  · rw [if_neg hok, if_neg hok]
    refine r_aload_n dX11_day_0 rfl ?_
    refine r_iload_n dX11_day_1 rfl ?_
    refine r_cVr (As := [_]) (c_X11_isDay α _ _ _ hn hn7) lk_11_124 rfl rfl (by decide) (by decide) rfl rfl (Nat.le_of_ble_eq_true rfl) dX11_day_2 ?_
    refine r_if_eq 20 dX11_day_5 (by decide) (fun h5 => ?_) (fun h5 => ?_)
    · refine r_aload_n dX11_day_20 rfl ?_
      refine r_bipush (v := (-2)) dX11_day_21 rfl ?_
      refine r_cVr (As := [_]) (c_X11_bad α _ _ _) lk_11_120 rfl rfl (by decide) (by decide) rfl rfl (Nat.le_of_ble_eq_true rfl) dX11_day_23 ?_
      refine r_iret rfl dX11_day_26 ?_
      exact fd_isI rfl rfl rfl
    · refine r_iload_n dX11_day_8 rfl ?_
      refine r_i2l dX11_day_9 rfl ?_
      refine r_lconst (v := 0) dX11_day_10 rfl ?_
      refine r_ldc2 (v := (5 : Int64)) (fd_in 1072 (by decide +kernel) (by decide +kernel)) dX11_day_11 ?_
      refine r_cSr (As := [_, _, _]) (c_in5 α _ _ _) lk_11_97 (by decide) (by decide) rfl rfl (Nat.le_of_ble_eq_true rfl) dX11_day_14 ?_
      refine r_if_ne 27 dX11_day_17 (by decide) (fun h17 => absurd h17 (not_not_intro (fd_b0.mpr (fun q => hok ⟨fd_bn.mp h5, q⟩)))) (fun h17 => ?_)
      refine r_aload_n dX11_day_20 rfl ?_
      refine r_bipush (v := (-2)) dX11_day_21 rfl ?_
      refine r_cVr (As := [_]) (c_X11_bad α _ _ _) lk_11_120 rfl rfl (by decide) (by decide) rfl rfl (Nat.le_of_ble_eq_true rfl) dX11_day_23 ?_
      refine r_iret rfl dX11_day_26 ?_
      exact fd_isI rfl rfl rfl
theorem c_X11_at (α : Nat → Nat) (I : fdI) (L : fdL) (d k : Int32) {n : Nat} (hn : I 0 1 = nI n) (hn7 : 1 ≤ n ∧ n ≤ 7) : Con fd_SM α yX11_at mX11_at [.ref (α 0), .int d, .int k] I L (fd_is (some (.int (if dayP d n ∧ (k = -1 ∨ dayP k n) then I 5 d.toNatClampNeg else -10))) (if dayP d n ∧ (k = -1 ∨ dayP k n) then fd_up I 5 d.toNatClampNeg k else mBad I) L) := by
  refine Con.of (by decide) rfl (Nat.le_of_ble_eq_true rfl) ?_
  by_cases hok : dayP d n ∧ (k = -1 ∨ dayP k n)
  · rw [if_pos hok, if_pos hok]
    obtain ⟨hok1, hok2⟩ := hok
    obtain ⟨j, hj, rfl⟩ := dayP_nI hok1
    rw [nI_clamp (by omega)]
    refine r_aload_n dX11_at_0 rfl ?_
    refine r_iload_n dX11_at_1 rfl ?_
    refine r_cVr (As := [_]) (c_X11_isDay α _ _ _ hn hn7) lk_11_124 rfl rfl (by decide) (by decide) rfl rfl (Nat.le_of_ble_eq_true rfl) dX11_at_2 ?_
    refine r_if_eq 21 dX11_at_5 (by decide) (fun h5 => absurd h5 (fd_bn.mpr hok1)) (fun h5 => ?_)
    refine r_iload_n dX11_at_8 rfl ?_
    refine r_iconst (v := (-1)) dX11_at_9 rfl ?_
    refine r_icmp_eq 28 dX11_at_10 (by decide) (fun h10 => ?_) (fun h10 => ?_)
    · refine r_aload_n dX11_at_28 rfl ?_
      refine r_getR rfl rfl fl_11_22 dX11_at_29 ?_
      refine r_iload_n dX11_at_32 rfl ?_
      refine r_ialdN rfl dX11_at_33 (by omega) (by omega) rfl ?_
      refine r_istore_n (lv' := [(3, _), (0, _), (1, _), (2, _)]) dX11_at_34 (Nat.le_of_ble_eq_true rfl) rfl ?_
      refine r_aload_n dX11_at_35 rfl ?_
      refine r_getR rfl rfl fl_11_22 dX11_at_36 ?_
      refine r_iload_n dX11_at_39 rfl ?_
      refine r_iload_n dX11_at_40 rfl ?_
      refine r_iastN rfl dX11_at_41 (by omega) (by omega) ?_
      refine r_iload_n dX11_at_42 rfl ?_
      refine r_iret rfl dX11_at_43 ?_
      exact fd_isI rfl rfl rfl
    · refine r_aload_n dX11_at_13 rfl ?_
      refine r_iload_n dX11_at_14 rfl ?_
      refine r_cVr (As := [_]) (c_X11_isDay α _ _ _ hn hn7) lk_11_124 rfl rfl (by decide) (by decide) rfl rfl (Nat.le_of_ble_eq_true rfl) dX11_at_15 ?_
      refine r_if_ne 28 dX11_at_18 (by decide) (fun h18 => ?_) (fun h18 => absurd h18 (fd_bn.mpr (hok2.resolve_left h10)))
      refine r_aload_n dX11_at_28 rfl ?_
      refine r_getR rfl rfl fl_11_22 dX11_at_29 ?_
      refine r_iload_n dX11_at_32 rfl ?_
      refine r_ialdN rfl dX11_at_33 (by omega) (by omega) rfl ?_
      refine r_istore_n (lv' := [(3, _), (0, _), (1, _), (2, _)]) dX11_at_34 (Nat.le_of_ble_eq_true rfl) rfl ?_
      refine r_aload_n dX11_at_35 rfl ?_
      refine r_getR rfl rfl fl_11_22 dX11_at_36 ?_
      refine r_iload_n dX11_at_39 rfl ?_
      refine r_iload_n dX11_at_40 rfl ?_
      refine r_iastN rfl dX11_at_41 (by omega) (by omega) ?_
      refine r_iload_n dX11_at_42 rfl ?_
      refine r_iret rfl dX11_at_43 ?_
      exact fd_isI rfl rfl rfl
  · rw [if_neg hok, if_neg hok]
    refine r_aload_n dX11_at_0 rfl ?_
    refine r_iload_n dX11_at_1 rfl ?_
    refine r_cVr (As := [_]) (c_X11_isDay α _ _ _ hn hn7) lk_11_124 rfl rfl (by decide) (by decide) rfl rfl (Nat.le_of_ble_eq_true rfl) dX11_at_2 ?_
    refine r_if_eq 21 dX11_at_5 (by decide) (fun h5 => ?_) (fun h5 => ?_)
    · refine r_aload_n dX11_at_21 rfl ?_
      refine r_bipush (v := (-10)) dX11_at_22 rfl ?_
      refine r_cVr (As := [_]) (c_X11_bad α _ _ _) lk_11_120 rfl rfl (by decide) (by decide) rfl rfl (Nat.le_of_ble_eq_true rfl) dX11_at_24 ?_
      refine r_iret rfl dX11_at_27 ?_
      exact fd_isI rfl rfl rfl
    · refine r_iload_n dX11_at_8 rfl ?_
      refine r_iconst (v := (-1)) dX11_at_9 rfl ?_
      refine r_icmp_eq 28 dX11_at_10 (by decide) (fun h10 => absurd h10 (fun q => hok ⟨fd_bn.mp h5, Or.inl q⟩)) (fun h10 => ?_)
      refine r_aload_n dX11_at_13 rfl ?_
      refine r_iload_n dX11_at_14 rfl ?_
      refine r_cVr (As := [_]) (c_X11_isDay α _ _ _ hn hn7) lk_11_124 rfl rfl (by decide) (by decide) rfl rfl (Nat.le_of_ble_eq_true rfl) dX11_at_15 ?_
      refine r_if_ne 28 dX11_at_18 (by decide) (fun h18 => absurd h18 (not_not_intro (fd_b0.mpr (fun q => hok ⟨fd_bn.mp h5, Or.inr q⟩)))) (fun h18 => ?_)
      refine r_aload_n dX11_at_21 rfl ?_
      refine r_bipush (v := (-10)) dX11_at_22 rfl ?_
      refine r_cVr (As := [_]) (c_X11_bad α _ _ _) lk_11_120 rfl rfl (by decide) (by decide) rfl rfl (Nat.le_of_ble_eq_true rfl) dX11_at_24 ?_
      refine r_iret rfl dX11_at_27 ?_
      exact fd_isI rfl rfl rfl
theorem c_X11_diary (α : Nat → Nat) (I : fdI) (L : fdL) (d k : Int32) {n : Nat} (hn : I 0 1 = nI n) (hn7 : 1 ≤ n ∧ n ≤ 7) : Con fd_SM α yX11_diary mX11_diary [.ref (α 0), .int d, .int k] I L (fd_is (some (.int (if dayP d n ∧ setP k then I 12 d.toNatClampNeg else -10))) (if dayP d n ∧ setP k then fd_up I 12 d.toNatClampNeg k else mBad I) L) := by
  refine Con.of (by decide) rfl (Nat.le_of_ble_eq_true rfl) ?_
  by_cases hok : dayP d n ∧ setP k
  · rw [if_pos hok, if_pos hok]
    obtain ⟨j, hj, rfl⟩ := dayP_nI hok.1
    rw [nI_clamp (by omega)]
    refine r_aload_n dX11_diary_0 rfl ?_
    refine r_iload_n dX11_diary_1 rfl ?_
    refine r_cVr (As := [_]) (c_X11_isDay α _ _ _ hn hn7) lk_11_124 rfl rfl (by decide) (by decide) rfl rfl (Nat.le_of_ble_eq_true rfl) dX11_diary_2 ?_
    refine r_if_eq 22 dX11_diary_5 (by decide) (fun h5 => absurd h5 (fd_bn.mpr hok.1)) (fun h5 => ?_)
    refine r_iload_n dX11_diary_8 rfl ?_
    refine r_i2l dX11_diary_9 rfl ?_
    refine r_ldc2 (v := (-1 : Int64)) (fd_in 1234 (by decide +kernel) (by decide +kernel)) dX11_diary_10 ?_
    refine r_ldc2 (v := (63 : Int64)) (fd_in 1229 (by decide +kernel) (by decide +kernel)) dX11_diary_13 ?_
    refine r_cSr (As := [_, _, _]) (c_inS α _ _ _) lk_11_97 (by decide) (by decide) rfl rfl (Nat.le_of_ble_eq_true rfl) dX11_diary_16 ?_
    refine r_if_ne 29 dX11_diary_19 (by decide) (fun h19 => ?_) (fun h19 => absurd h19 (fd_bn.mpr hok.2))
    refine r_aload_n dX11_diary_29 rfl ?_
    refine r_getR rfl rfl fl_11_43 dX11_diary_30 ?_
    refine r_iload_n dX11_diary_33 rfl ?_
    refine r_ialdN rfl dX11_diary_34 (by omega) (by omega) rfl ?_
    refine r_istore_n (lv' := [(3, _), (0, _), (1, _), (2, _)]) dX11_diary_35 (Nat.le_of_ble_eq_true rfl) rfl ?_
    refine r_aload_n dX11_diary_36 rfl ?_
    refine r_getR rfl rfl fl_11_43 dX11_diary_37 ?_
    refine r_iload_n dX11_diary_40 rfl ?_
    refine r_iload_n dX11_diary_41 rfl ?_
    refine r_iastN rfl dX11_diary_42 (by omega) (by omega) ?_
    refine r_iload_n dX11_diary_43 rfl ?_
    refine r_iret rfl dX11_diary_44 ?_
    exact fd_isI rfl rfl rfl
  · rw [if_neg hok, if_neg hok]
    refine r_aload_n dX11_diary_0 rfl ?_
    refine r_iload_n dX11_diary_1 rfl ?_
    refine r_cVr (As := [_]) (c_X11_isDay α _ _ _ hn hn7) lk_11_124 rfl rfl (by decide) (by decide) rfl rfl (Nat.le_of_ble_eq_true rfl) dX11_diary_2 ?_
    refine r_if_eq 22 dX11_diary_5 (by decide) (fun h5 => ?_) (fun h5 => ?_)
    · refine r_aload_n dX11_diary_22 rfl ?_
      refine r_bipush (v := (-10)) dX11_diary_23 rfl ?_
      refine r_cVr (As := [_]) (c_X11_bad α _ _ _) lk_11_120 rfl rfl (by decide) (by decide) rfl rfl (Nat.le_of_ble_eq_true rfl) dX11_diary_25 ?_
      refine r_iret rfl dX11_diary_28 ?_
      exact fd_isI rfl rfl rfl
    · refine r_iload_n dX11_diary_8 rfl ?_
      refine r_i2l dX11_diary_9 rfl ?_
      refine r_ldc2 (v := (-1 : Int64)) (fd_in 1234 (by decide +kernel) (by decide +kernel)) dX11_diary_10 ?_
      refine r_ldc2 (v := (63 : Int64)) (fd_in 1229 (by decide +kernel) (by decide +kernel)) dX11_diary_13 ?_
      refine r_cSr (As := [_, _, _]) (c_inS α _ _ _) lk_11_97 (by decide) (by decide) rfl rfl (Nat.le_of_ble_eq_true rfl) dX11_diary_16 ?_
      refine r_if_ne 29 dX11_diary_19 (by decide) (fun h19 => absurd h19 (not_not_intro (fd_b0.mpr (fun q => hok ⟨fd_bn.mp h5, q⟩)))) (fun h19 => ?_)
      refine r_aload_n dX11_diary_22 rfl ?_
      refine r_bipush (v := (-10)) dX11_diary_23 rfl ?_
      refine r_cVr (As := [_]) (c_X11_bad α _ _ _) lk_11_120 rfl rfl (by decide) (by decide) rfl rfl (Nat.le_of_ble_eq_true rfl) dX11_diary_25 ?_
      refine r_iret rfl dX11_diary_28 ?_
      exact fd_isI rfl rfl rfl
theorem c_X11_lived (α : Nat → Nat) (I : fdI) (L : fdL) (d : Int32) {n : Nat} (hn : I 0 1 = nI n) (hn7 : 1 ≤ n ∧ n ≤ 7) : Con fd_SM α yX11_lived mX11_lived [.ref (α 0), .int d] I L (fd_is (some (.int (if dayP d n then I 6 d.toNatClampNeg else -2))) (if dayP d n then I else mBad I) L) := by
  refine Con.of (by decide) rfl (Nat.le_of_ble_eq_true rfl) ?_
  by_cases hok : dayP d n
  · rw [if_pos hok, if_pos hok]
    obtain ⟨j, hj, rfl⟩ := dayP_nI hok
    rw [nI_clamp (by omega)]
    refine r_aload_n dX11_lived_0 rfl ?_
    refine r_iload_n dX11_lived_1 rfl ?_
    refine r_cVr (As := [_]) (c_X11_isDay α _ _ _ hn hn7) lk_11_124 rfl rfl (by decide) (by decide) rfl rfl (Nat.le_of_ble_eq_true rfl) dX11_lived_2 ?_
    refine r_if_eq 17 dX11_lived_5 (by decide) (fun h5 => absurd h5 (fd_bn.mpr hok)) (fun h5 => ?_)
    refine r_aload_n dX11_lived_8 rfl ?_
    refine r_getR rfl rfl fl_11_25 dX11_lived_9 ?_
    refine r_iload_n dX11_lived_12 rfl ?_
    refine r_ialdN rfl dX11_lived_13 (by omega) (by omega) rfl ?_
    refine r_goto (tgt := 23) dX11_lived_14 (by decide) ?_
    refine r_iret rfl dX11_lived_23 ?_
    exact fd_isI rfl rfl rfl
  · rw [if_neg hok, if_neg hok]
    refine r_aload_n dX11_lived_0 rfl ?_
    refine r_iload_n dX11_lived_1 rfl ?_
    refine r_cVr (As := [_]) (c_X11_isDay α _ _ _ hn hn7) lk_11_124 rfl rfl (by decide) (by decide) rfl rfl (Nat.le_of_ble_eq_true rfl) dX11_lived_2 ?_
    refine r_if_eq 17 dX11_lived_5 (by decide) (fun h5 => ?_) (fun h5 => absurd h5 (not_not_intro (fd_b0.mpr hok)))
    refine r_aload_n dX11_lived_17 rfl ?_
    refine r_bipush (v := (-2)) dX11_lived_18 rfl ?_
    refine r_cVr (As := [_]) (c_X11_bad α _ _ _) lk_11_120 rfl rfl (by decide) (by decide) rfl rfl (Nat.le_of_ble_eq_true rfl) dX11_lived_20 ?_
    refine r_iret rfl dX11_lived_23 ?_
    exact fd_isI rfl rfl rfl
theorem c_X11_clear (α : Nat → Nat) (I : fdI) (L : fdL) : Con fd_SM α yX11_clear mX11_clear [.ref (α 0)] I L (fd_is (some (.int (I 0 29))) (fd_up I 0 29 0) L) := by
  refine Con.of (by decide) rfl (Nat.le_of_ble_eq_true rfl) ?_
  refine r_aload_n dX11_clear_0 rfl ?_
  refine r_getI rfl rfl fl_11_218 dX11_clear_1 ?_
  refine r_istore_n (lv' := [(1, _), (0, _)]) dX11_clear_4 (Nat.le_of_ble_eq_true rfl) rfl ?_
  refine r_aload_n dX11_clear_5 rfl ?_
  refine r_iconst (v := 0) dX11_clear_6 rfl ?_
  refine r_putI rfl rfl fl_11_218 fw_11_29 dX11_clear_7 ?_
  refine r_iload_n dX11_clear_10 rfl ?_
  refine r_iret rfl dX11_clear_11 ?_
  exact fd_isI rfl rfl rfl
theorem c_X11_type (α : Nat → Nat) (I : fdI) (L : fdL) (c : Int32) {b : Nat} (hb : I 0 29 = nI b) (hb150 : b ≤ 150) : Con fd_SM α yX11_type mX11_type [.ref (α 0), .int c] I L (fd_is (some (.int (if dayP c 128 then (if b = 150 then -4 else nI (b + 1)) else -2))) (if dayP c 128 then (if b = 150 then mFull I else fd_up (fd_up I 20 b c) 0 29 (nI (b + 1))) else mBad I) L) := by
  refine Con.of (by decide) rfl (Nat.le_of_ble_eq_true rfl) ?_
  by_cases hok : dayP c 128
  · rw [if_pos hok, if_pos hok]
    by_cases h150 : b = 150
    · rw [if_pos h150, if_pos h150]
      subst h150
      refine r_iload_n dX11_type_0 rfl ?_
      refine r_i2l dX11_type_1 rfl ?_
      refine r_lconst (v := 0) dX11_type_2 rfl ?_
      refine r_ldc2 (v := (127 : Int64)) (fd_in 1286 (by decide +kernel) (by decide +kernel)) dX11_type_3 ?_
      refine r_cSr (As := [_, _, _]) (c_in127 α _ _ _) lk_11_97 (by decide) (by decide) rfl rfl (Nat.le_of_ble_eq_true rfl) dX11_type_6 ?_
      refine r_if_ne 19 dX11_type_9 (by decide) (fun h9 => ?_) (fun h9 => absurd h9 (fd_bn.mpr hok))
      refine r_aload_n dX11_type_19 rfl ?_
      refine r_getV rfl rfl fl_11_218 dX11_type_20 hb ?_
      refine r_sipush (v := 150) dX11_type_23 rfl ?_
      refine r_icmp_ne 34 dX11_type_26 (by decide) (fun h26 => absurd h26 (not_not_intro rfl)) (fun h26 => ?_)
      refine r_aload_n dX11_type_29 rfl ?_
      refine r_cVr (As := []) (c_X11_full α _ _) lk_11_139 rfl rfl (by decide) (by decide) rfl rfl (Nat.le_of_ble_eq_true rfl) dX11_type_30 ?_
      refine r_iret rfl dX11_type_33 ?_
      exact fd_isI rfl rfl rfl
    · rw [if_neg h150, if_neg h150]
      refine r_iload_n dX11_type_0 rfl ?_
      refine r_i2l dX11_type_1 rfl ?_
      refine r_lconst (v := 0) dX11_type_2 rfl ?_
      refine r_ldc2 (v := (127 : Int64)) (fd_in 1286 (by decide +kernel) (by decide +kernel)) dX11_type_3 ?_
      refine r_cSr (As := [_, _, _]) (c_in127 α _ _ _) lk_11_97 (by decide) (by decide) rfl rfl (Nat.le_of_ble_eq_true rfl) dX11_type_6 ?_
      refine r_if_ne 19 dX11_type_9 (by decide) (fun h9 => ?_) (fun h9 => absurd h9 (fd_bn.mpr hok))
      refine r_aload_n dX11_type_19 rfl ?_
      refine r_getV rfl rfl fl_11_218 dX11_type_20 hb ?_
      refine r_sipush (v := 150) dX11_type_23 rfl ?_
      refine r_icmp_ne 34 dX11_type_26 (by decide) (fun h26 => ?_) (fun h26 => absurd h26 (fun q => h150 ((nI_eq (b := 150) (by omega) (by omega)).mp q)))
      refine r_aload_n dX11_type_34 rfl ?_
      refine r_getR rfl rfl fl_11_67 dX11_type_35 ?_
      refine r_aload_n dX11_type_38 rfl ?_
      refine r_getV rfl rfl fl_11_218 dX11_type_39 hb ?_
      refine r_iload_n dX11_type_42 rfl ?_
      refine r_iastN rfl dX11_type_43 (by omega) (by omega) ?_
      refine r_aload_n dX11_type_44 rfl ?_
      refine r_dup dX11_type_45 rfl ?_
      refine r_getV rfl rfl fl_11_218 dX11_type_46 hb ?_
      refine r_iconst (v := 1) dX11_type_49 rfl ?_
      refine r_iadd dX11_type_50 ?_
      rw [nI_1]
      refine r_putI rfl rfl fl_11_218 fw_11_29 dX11_type_51 ?_
      refine r_aload_n dX11_type_54 rfl ?_
      refine r_getV rfl rfl fl_11_218 dX11_type_55 fd_up_same ?_
      refine r_iret rfl dX11_type_58 ?_
      exact fd_isI rfl rfl rfl
  · rw [if_neg hok, if_neg hok]
    refine r_iload_n dX11_type_0 rfl ?_
    refine r_i2l dX11_type_1 rfl ?_
    refine r_lconst (v := 0) dX11_type_2 rfl ?_
    refine r_ldc2 (v := (127 : Int64)) (fd_in 1286 (by decide +kernel) (by decide +kernel)) dX11_type_3 ?_
    refine r_cSr (As := [_, _, _]) (c_in127 α _ _ _) lk_11_97 (by decide) (by decide) rfl rfl (Nat.le_of_ble_eq_true rfl) dX11_type_6 ?_
    refine r_if_ne 19 dX11_type_9 (by decide) (fun h9 => absurd h9 (not_not_intro (fd_b0.mpr hok))) (fun h9 => ?_)
    refine r_aload_n dX11_type_12 rfl ?_
    refine r_bipush (v := (-2)) dX11_type_13 rfl ?_
    refine r_cVr (As := [_]) (c_X11_bad α _ _ _) lk_11_120 rfl rfl (by decide) (by decide) rfl rfl (Nat.le_of_ble_eq_true rfl) dX11_type_15 ?_
    refine r_iret rfl dX11_type_18 ?_
    exact fd_isI rfl rfl rfl
