/-! a life by itself; its beginning -/
def fd_SL : List fdE := [.inl (5, [0, 0, 0, 0, 0, 0, 0, 3, 4, 5, 6, 7, 8, 9, 10, 11, 12]), .inr (.inl (0, 7)), .inr (.inl (0, 7)), .inr (.inl (0, 7)), .inr (.inl (0, 7)), .inr (.inl (0, 7)), .inr (.inl (0, 6)), .inr (.inl (0, 6)), .inr (.inl (0, 6)), .inr (.inl (0, 6)), .inr (.inl (0, 3))]
def anL (I I' : fdI) (n : Int32) : Prop := (∀ a, 5 < a → I' a = I a) ∧ I' 0 0 = n ∧ I' 0 1 = 0 ∧ I' 0 2 = 0 ∧ I' 0 3 = 0 ∧ I' 0 4 = 0 ∧ I' 0 5 = 0 ∧ I' 0 6 = 0 ∧ ∀ d, d < 7 → I' 1 d = 0 ∧ I' 2 d = 0 ∧ I' 3 d = 0 ∧ I' 4 d = -1 ∧ I' 5 d = -1
theorem c_L_startAnew (α : Nat → Nat) (I : fdI) (L : fdL) (n : Int32) : Con fd_SL α yX5_startAnew mX5_startAnew [.ref (α 0), .int n] I L (fd_vp (fun I' L' => L' = L ∧ anL I I' n)) := by
  refine Con.of (by decide) rfl (Nat.le_of_ble_eq_true rfl) ?_
  have loop : ∀ k, k ≤ 7 → ∀ I1 : fdI, (∀ a, 5 < a → I1 a = I a) → (I1 0 0 = n ∧ I1 0 1 = 0 ∧ I1 0 2 = 0 ∧ I1 0 3 = 0 ∧ I1 0 4 = 0 ∧ I1 0 5 = 0 ∧ I1 0 6 = 0) → (∀ d, d < k → I1 1 d = 0 ∧ I1 2 d = 0 ∧ I1 3 d = 0 ∧ I1 4 d = -1 ∧ I1 5 d = -1) →
      Rn fd_SL α mX5_startAnew 37 [(2, .int (nI k)), (0, .ref (α 0))] [] I1 L (fd_vp (fun I' L' => L' = L ∧ anL I I' n)) := by
    refine fd_down (fun k hk ih => ?_)
    intro I1 h1 h2 h3
    refine r_iload_n dX5_startAnew_37 rfl ?_
    refine r_bipush (v := 7) dX5_startAnew_38 rfl ?_
    refine r_icmp_ge 84 dX5_startAnew_40 (by decide) (fun h40 => ?_) (fun h40 => ?_)
    · have hh := (nI_leI (a := 7) (by omega) (by omega)).mp h40
      have e : k = 7 := by omega
      subst e
      refine r_vret rfl dX5_startAnew_84 ?_
      exact ⟨rfl, rfl, h1, h2.1, h2.2.1, h2.2.2.1, h2.2.2.2.1, h2.2.2.2.2.1, h2.2.2.2.2.2.1, h2.2.2.2.2.2.2, h3⟩
    · have hh : ¬ 7 ≤ k := fun q => h40 ((nI_leI (a := 7) (by omega) (by omega)).mpr q)
      refine r_aload_n dX5_startAnew_43 rfl ?_
      refine r_getR rfl rfl fl_5_9 dX5_startAnew_44 ?_
      refine r_iload_n dX5_startAnew_47 rfl ?_
      refine r_iconst (v := 0) dX5_startAnew_48 rfl ?_
      refine r_iastN rfl dX5_startAnew_49 (by omega) (by omega) ?_
      refine r_aload_n dX5_startAnew_50 rfl ?_
      refine r_getR rfl rfl fl_5_15 dX5_startAnew_51 ?_
      refine r_iload_n dX5_startAnew_54 rfl ?_
      refine r_iconst (v := 0) dX5_startAnew_55 rfl ?_
      refine r_iastN rfl dX5_startAnew_56 (by omega) (by omega) ?_
      refine r_aload_n dX5_startAnew_57 rfl ?_
      refine r_getR rfl rfl fl_5_18 dX5_startAnew_58 ?_
      refine r_iload_n dX5_startAnew_61 rfl ?_
      refine r_iconst (v := 0) dX5_startAnew_62 rfl ?_
      refine r_iastN rfl dX5_startAnew_63 (by omega) (by omega) ?_
      refine r_aload_n dX5_startAnew_64 rfl ?_
      refine r_getR rfl rfl fl_5_21 dX5_startAnew_65 ?_
      refine r_iload_n dX5_startAnew_68 rfl ?_
      refine r_iconst (v := (-1)) dX5_startAnew_69 rfl ?_
      refine r_iastN rfl dX5_startAnew_70 (by omega) (by omega) ?_
      refine r_aload_n dX5_startAnew_71 rfl ?_
      refine r_getR rfl rfl fl_5_24 dX5_startAnew_72 ?_
      refine r_iload_n dX5_startAnew_75 rfl ?_
      refine r_iconst (v := (-1)) dX5_startAnew_76 rfl ?_
      refine r_iastN rfl dX5_startAnew_77 (by omega) (by omega) ?_
      refine r_iinc (v := _ + 1) (lv' := [(2, _), (0, _)]) dX5_startAnew_78 rfl rfl (Nat.le_of_ble_eq_true rfl) rfl ?_
      refine r_goto (tgt := 37) dX5_startAnew_81 (by decide) ?_
      rw [nI_1]
      refine r_keep [2, 0] rfl (ih (by omega) _ (fun a ha => ?_) ?_ (fun d hd => ?_))
      · rw [fd_up_cell (by omega), fd_up_cell (by omega), fd_up_cell (by omega), fd_up_cell (by omega), fd_up_cell (by omega)]; exact h1 a ha
      · exact h2
      · by_cases q : d = k
        · subst q; simp [fd_up]
        · simp only [fd_up, q]; exact h3 d (by omega)
  refine r_aload_n dX5_startAnew_0 rfl ?_
  refine r_iload_n dX5_startAnew_1 rfl ?_
  refine r_putI rfl rfl fl_5_46 fw_5_0 dX5_startAnew_2 ?_
  refine r_aload_n dX5_startAnew_5 rfl ?_
  refine r_iconst (v := 0) dX5_startAnew_6 rfl ?_
  refine r_putI rfl rfl fl_5_50 fw_5_1 dX5_startAnew_7 ?_
  refine r_aload_n dX5_startAnew_10 rfl ?_
  refine r_iconst (v := 0) dX5_startAnew_11 rfl ?_
  refine r_putI rfl rfl fl_5_53 fw_5_2 dX5_startAnew_12 ?_
  refine r_aload_n dX5_startAnew_15 rfl ?_
  refine r_iconst (v := 0) dX5_startAnew_16 rfl ?_
  refine r_putI rfl rfl fl_5_56 fw_5_3 dX5_startAnew_17 ?_
  refine r_aload_n dX5_startAnew_20 rfl ?_
  refine r_iconst (v := 0) dX5_startAnew_21 rfl ?_
  refine r_putI rfl rfl fl_5_59 fw_5_4 dX5_startAnew_22 ?_
  refine r_aload_n dX5_startAnew_25 rfl ?_
  refine r_iconst (v := 0) dX5_startAnew_26 rfl ?_
  refine r_putI rfl rfl fl_5_62 fw_5_5 dX5_startAnew_27 ?_
  refine r_aload_n dX5_startAnew_30 rfl ?_
  refine r_iconst (v := 0) dX5_startAnew_31 rfl ?_
  refine r_putI rfl rfl fl_5_65 fw_5_6 dX5_startAnew_32 ?_
  refine r_iconst (v := 0) dX5_startAnew_35 rfl ?_
  refine r_istore_n (lv' := [(2, _), (0, _), (1, _)]) dX5_startAnew_36 (Nat.le_of_ble_eq_true rfl) rfl ?_
  refine r_keep [2, 0] rfl (loop 0 (by omega) _ (fun a ha => ?_) ?_ (fun d hd => by omega))
  · rw [fd_up_cell (by omega), fd_up_cell (by omega), fd_up_cell (by omega), fd_up_cell (by omega), fd_up_cell (by omega), fd_up_cell (by omega), fd_up_cell (by omega)]
  · simp [fd_up]
