/-! the class: a life copied (printed by gen/mkcopy.py) -/
def cpM (q : Nat) : Nat := if q ≤ 5 then 7 else if q ≤ 9 then 6 else 3
def cpR (b c r : Nat) (I I' : fdI) : Prop := (∀ a, a < b ∨ b + 10 < a → I' a = I a) ∧ (∀ j, j < 7 → I' b j = I c j) ∧ ∀ q, 1 ≤ q → q < r → ∀ x, x < cpM q → I' (b + q) x = I (c + q) x
theorem cpR.step {b c r m : Nat} {I I1 : fdI} (h : cpR b c r I I1) (hc : c + 10 < b ∨ b + 10 < c) (hr : 1 ≤ r ∧ r ≤ 10) (hm : cpM r = m) : cpR b c (r + 1) I (fd_row I1 (b + r) (va_cpy (I1 (c + r)) (I1 (b + r)) 0 0 m)) := by
  refine ⟨fun a ha => (fd_row_ne (by omega)).trans (h.1 a ha), fun j hj => (congrFun (fd_row_ne (by omega)) j).trans (h.2.1 j hj), fun q q1 q2 x hx => ?_⟩
  by_cases e : q = r
  · subst e
    rw [fd_row_same, h.1 (c + q) (by omega)]
    rw [hm] at hx
    simp [va_cpy, hx]
  · rw [fd_row_ne (by omega)]
    exact h.2.2 q q1 (by omega) x hx
theorem c_X5_copy_8_19 (α : Nat → Nat) (I : fdI) (L : fdL) : Con fd_SX α yX5_copyFrom mX5_copyFrom [.ref (α 8), .ref (α 19)] I L (fd_vp (fun I' L' => L' = L ∧ cpR 8 19 11 I I')) := by
  refine Con.of (by decide) rfl (Nat.le_of_ble_eq_true rfl) ?_
  have s10 : ∀ I1 : fdI, cpR 8 19 10 I I1 → Rn fd_SX α mX5_copyFrom 191 [(0, .ref (α 8)), (1, .ref (α 19))] [] I1 L (fd_vp (fun I' L' => L' = L ∧ cpR 8 19 11 I I')) := by
    intro I1 h
    refine r_aload_n dX5_copyFrom_191 rfl ?_
    refine r_getR rfl rfl fl_5_39 dX5_copyFrom_192 ?_
    refine r_iconst (v := 0) dX5_copyFrom_195 rfl ?_
    refine r_aload_n dX5_copyFrom_196 rfl ?_
    refine r_getR rfl rfl fl_5_39 dX5_copyFrom_197 ?_
    refine r_iconst (v := 0) dX5_copyFrom_200 rfl ?_
    refine r_iconst (v := 3) dX5_copyFrom_201 rfl ?_
    refine r_copy rfl rfl (fun _ => rfl) rfl (fd_in 572 (by decide +kernel) (by decide +kernel)) (fd_in 574 (by decide +kernel) (by decide +kernel)) (fd_in 573 (by decide +kernel) (by decide +kernel)) (fd_in 77 (by decide +kernel) (by decide +kernel)) (by decide) (by decide) (by decide) (by decide) (by decide) (fun _ _ => rfl) (by decide) (by decide) dX5_copyFrom_202 ?_
    refine r_vret rfl dX5_copyFrom_205 ?_
    exact ⟨rfl, rfl, h.step (r := 10) (by decide) (by decide) rfl⟩
  have s9 : ∀ I1 : fdI, cpR 8 19 9 I I1 → Rn fd_SX α mX5_copyFrom 176 [(0, .ref (α 8)), (1, .ref (α 19))] [] I1 L (fd_vp (fun I' L' => L' = L ∧ cpR 8 19 11 I I')) := by
    intro I1 h
    refine r_aload_n dX5_copyFrom_176 rfl ?_
    refine r_getR rfl rfl fl_5_36 dX5_copyFrom_177 ?_
    refine r_iconst (v := 0) dX5_copyFrom_180 rfl ?_
    refine r_aload_n dX5_copyFrom_181 rfl ?_
    refine r_getR rfl rfl fl_5_36 dX5_copyFrom_182 ?_
    refine r_iconst (v := 0) dX5_copyFrom_185 rfl ?_
    refine r_bipush (v := 6) dX5_copyFrom_186 rfl ?_
    refine r_copy rfl rfl (fun _ => rfl) rfl (fd_in 572 (by decide +kernel) (by decide +kernel)) (fd_in 574 (by decide +kernel) (by decide +kernel)) (fd_in 573 (by decide +kernel) (by decide +kernel)) (fd_in 77 (by decide +kernel) (by decide +kernel)) (by decide) (by decide) (by decide) (by decide) (by decide) (fun _ _ => rfl) (by decide) (by decide) dX5_copyFrom_188 ?_
    exact r_keep [0, 1] rfl (s10 _ (h.step (r := 9) (by decide) (by decide) rfl))
  have s8 : ∀ I1 : fdI, cpR 8 19 8 I I1 → Rn fd_SX α mX5_copyFrom 161 [(0, .ref (α 8)), (1, .ref (α 19))] [] I1 L (fd_vp (fun I' L' => L' = L ∧ cpR 8 19 11 I I')) := by
    intro I1 h
    refine r_aload_n dX5_copyFrom_161 rfl ?_
    refine r_getR rfl rfl fl_5_33 dX5_copyFrom_162 ?_
    refine r_iconst (v := 0) dX5_copyFrom_165 rfl ?_
    refine r_aload_n dX5_copyFrom_166 rfl ?_
    refine r_getR rfl rfl fl_5_33 dX5_copyFrom_167 ?_
    refine r_iconst (v := 0) dX5_copyFrom_170 rfl ?_
    refine r_bipush (v := 6) dX5_copyFrom_171 rfl ?_
    refine r_copy rfl rfl (fun _ => rfl) rfl (fd_in 572 (by decide +kernel) (by decide +kernel)) (fd_in 574 (by decide +kernel) (by decide +kernel)) (fd_in 573 (by decide +kernel) (by decide +kernel)) (fd_in 77 (by decide +kernel) (by decide +kernel)) (by decide) (by decide) (by decide) (by decide) (by decide) (fun _ _ => rfl) (by decide) (by decide) dX5_copyFrom_173 ?_
    exact r_keep [0, 1] rfl (s9 _ (h.step (r := 8) (by decide) (by decide) rfl))
  have s7 : ∀ I1 : fdI, cpR 8 19 7 I I1 → Rn fd_SX α mX5_copyFrom 146 [(0, .ref (α 8)), (1, .ref (α 19))] [] I1 L (fd_vp (fun I' L' => L' = L ∧ cpR 8 19 11 I I')) := by
    intro I1 h
    refine r_aload_n dX5_copyFrom_146 rfl ?_
    refine r_getR rfl rfl fl_5_30 dX5_copyFrom_147 ?_
    refine r_iconst (v := 0) dX5_copyFrom_150 rfl ?_
    refine r_aload_n dX5_copyFrom_151 rfl ?_
    refine r_getR rfl rfl fl_5_30 dX5_copyFrom_152 ?_
    refine r_iconst (v := 0) dX5_copyFrom_155 rfl ?_
    refine r_bipush (v := 6) dX5_copyFrom_156 rfl ?_
    refine r_copy rfl rfl (fun _ => rfl) rfl (fd_in 572 (by decide +kernel) (by decide +kernel)) (fd_in 574 (by decide +kernel) (by decide +kernel)) (fd_in 573 (by decide +kernel) (by decide +kernel)) (fd_in 77 (by decide +kernel) (by decide +kernel)) (by decide) (by decide) (by decide) (by decide) (by decide) (fun _ _ => rfl) (by decide) (by decide) dX5_copyFrom_158 ?_
    exact r_keep [0, 1] rfl (s8 _ (h.step (r := 7) (by decide) (by decide) rfl))
  have s6 : ∀ I1 : fdI, cpR 8 19 6 I I1 → Rn fd_SX α mX5_copyFrom 131 [(0, .ref (α 8)), (1, .ref (α 19))] [] I1 L (fd_vp (fun I' L' => L' = L ∧ cpR 8 19 11 I I')) := by
    intro I1 h
    refine r_aload_n dX5_copyFrom_131 rfl ?_
    refine r_getR rfl rfl fl_5_27 dX5_copyFrom_132 ?_
    refine r_iconst (v := 0) dX5_copyFrom_135 rfl ?_
    refine r_aload_n dX5_copyFrom_136 rfl ?_
    refine r_getR rfl rfl fl_5_27 dX5_copyFrom_137 ?_
    refine r_iconst (v := 0) dX5_copyFrom_140 rfl ?_
    refine r_bipush (v := 6) dX5_copyFrom_141 rfl ?_
    refine r_copy rfl rfl (fun _ => rfl) rfl (fd_in 572 (by decide +kernel) (by decide +kernel)) (fd_in 574 (by decide +kernel) (by decide +kernel)) (fd_in 573 (by decide +kernel) (by decide +kernel)) (fd_in 77 (by decide +kernel) (by decide +kernel)) (by decide) (by decide) (by decide) (by decide) (by decide) (fun _ _ => rfl) (by decide) (by decide) dX5_copyFrom_143 ?_
    exact r_keep [0, 1] rfl (s7 _ (h.step (r := 6) (by decide) (by decide) rfl))
  have s5 : ∀ I1 : fdI, cpR 8 19 5 I I1 → Rn fd_SX α mX5_copyFrom 116 [(0, .ref (α 8)), (1, .ref (α 19))] [] I1 L (fd_vp (fun I' L' => L' = L ∧ cpR 8 19 11 I I')) := by
    intro I1 h
    refine r_aload_n dX5_copyFrom_116 rfl ?_
    refine r_getR rfl rfl fl_5_24 dX5_copyFrom_117 ?_
    refine r_iconst (v := 0) dX5_copyFrom_120 rfl ?_
    refine r_aload_n dX5_copyFrom_121 rfl ?_
    refine r_getR rfl rfl fl_5_24 dX5_copyFrom_122 ?_
    refine r_iconst (v := 0) dX5_copyFrom_125 rfl ?_
    refine r_bipush (v := 7) dX5_copyFrom_126 rfl ?_
    refine r_copy rfl rfl (fun _ => rfl) rfl (fd_in 572 (by decide +kernel) (by decide +kernel)) (fd_in 574 (by decide +kernel) (by decide +kernel)) (fd_in 573 (by decide +kernel) (by decide +kernel)) (fd_in 77 (by decide +kernel) (by decide +kernel)) (by decide) (by decide) (by decide) (by decide) (by decide) (fun _ _ => rfl) (by decide) (by decide) dX5_copyFrom_128 ?_
    exact r_keep [0, 1] rfl (s6 _ (h.step (r := 5) (by decide) (by decide) rfl))
  have s4 : ∀ I1 : fdI, cpR 8 19 4 I I1 → Rn fd_SX α mX5_copyFrom 101 [(0, .ref (α 8)), (1, .ref (α 19))] [] I1 L (fd_vp (fun I' L' => L' = L ∧ cpR 8 19 11 I I')) := by
    intro I1 h
    refine r_aload_n dX5_copyFrom_101 rfl ?_
    refine r_getR rfl rfl fl_5_21 dX5_copyFrom_102 ?_
    refine r_iconst (v := 0) dX5_copyFrom_105 rfl ?_
    refine r_aload_n dX5_copyFrom_106 rfl ?_
    refine r_getR rfl rfl fl_5_21 dX5_copyFrom_107 ?_
    refine r_iconst (v := 0) dX5_copyFrom_110 rfl ?_
    refine r_bipush (v := 7) dX5_copyFrom_111 rfl ?_
    refine r_copy rfl rfl (fun _ => rfl) rfl (fd_in 572 (by decide +kernel) (by decide +kernel)) (fd_in 574 (by decide +kernel) (by decide +kernel)) (fd_in 573 (by decide +kernel) (by decide +kernel)) (fd_in 77 (by decide +kernel) (by decide +kernel)) (by decide) (by decide) (by decide) (by decide) (by decide) (fun _ _ => rfl) (by decide) (by decide) dX5_copyFrom_113 ?_
    exact r_keep [0, 1] rfl (s5 _ (h.step (r := 4) (by decide) (by decide) rfl))
  have s3 : ∀ I1 : fdI, cpR 8 19 3 I I1 → Rn fd_SX α mX5_copyFrom 86 [(0, .ref (α 8)), (1, .ref (α 19))] [] I1 L (fd_vp (fun I' L' => L' = L ∧ cpR 8 19 11 I I')) := by
    intro I1 h
    refine r_aload_n dX5_copyFrom_86 rfl ?_
    refine r_getR rfl rfl fl_5_18 dX5_copyFrom_87 ?_
    refine r_iconst (v := 0) dX5_copyFrom_90 rfl ?_
    refine r_aload_n dX5_copyFrom_91 rfl ?_
    refine r_getR rfl rfl fl_5_18 dX5_copyFrom_92 ?_
    refine r_iconst (v := 0) dX5_copyFrom_95 rfl ?_
    refine r_bipush (v := 7) dX5_copyFrom_96 rfl ?_
    refine r_copy rfl rfl (fun _ => rfl) rfl (fd_in 572 (by decide +kernel) (by decide +kernel)) (fd_in 574 (by decide +kernel) (by decide +kernel)) (fd_in 573 (by decide +kernel) (by decide +kernel)) (fd_in 77 (by decide +kernel) (by decide +kernel)) (by decide) (by decide) (by decide) (by decide) (by decide) (fun _ _ => rfl) (by decide) (by decide) dX5_copyFrom_98 ?_
    exact r_keep [0, 1] rfl (s4 _ (h.step (r := 3) (by decide) (by decide) rfl))
  have s2 : ∀ I1 : fdI, cpR 8 19 2 I I1 → Rn fd_SX α mX5_copyFrom 71 [(0, .ref (α 8)), (1, .ref (α 19))] [] I1 L (fd_vp (fun I' L' => L' = L ∧ cpR 8 19 11 I I')) := by
    intro I1 h
    refine r_aload_n dX5_copyFrom_71 rfl ?_
    refine r_getR rfl rfl fl_5_15 dX5_copyFrom_72 ?_
    refine r_iconst (v := 0) dX5_copyFrom_75 rfl ?_
    refine r_aload_n dX5_copyFrom_76 rfl ?_
    refine r_getR rfl rfl fl_5_15 dX5_copyFrom_77 ?_
    refine r_iconst (v := 0) dX5_copyFrom_80 rfl ?_
    refine r_bipush (v := 7) dX5_copyFrom_81 rfl ?_
    refine r_copy rfl rfl (fun _ => rfl) rfl (fd_in 572 (by decide +kernel) (by decide +kernel)) (fd_in 574 (by decide +kernel) (by decide +kernel)) (fd_in 573 (by decide +kernel) (by decide +kernel)) (fd_in 77 (by decide +kernel) (by decide +kernel)) (by decide) (by decide) (by decide) (by decide) (by decide) (fun _ _ => rfl) (by decide) (by decide) dX5_copyFrom_83 ?_
    exact r_keep [0, 1] rfl (s3 _ (h.step (r := 2) (by decide) (by decide) rfl))
  have s1 : ∀ I1 : fdI, cpR 8 19 1 I I1 → Rn fd_SX α mX5_copyFrom 56 [(0, .ref (α 8)), (1, .ref (α 19))] [] I1 L (fd_vp (fun I' L' => L' = L ∧ cpR 8 19 11 I I')) := by
    intro I1 h
    refine r_aload_n dX5_copyFrom_56 rfl ?_
    refine r_getR rfl rfl fl_5_9 dX5_copyFrom_57 ?_
    refine r_iconst (v := 0) dX5_copyFrom_60 rfl ?_
    refine r_aload_n dX5_copyFrom_61 rfl ?_
    refine r_getR rfl rfl fl_5_9 dX5_copyFrom_62 ?_
    refine r_iconst (v := 0) dX5_copyFrom_65 rfl ?_
    refine r_bipush (v := 7) dX5_copyFrom_66 rfl ?_
    refine r_copy rfl rfl (fun _ => rfl) rfl (fd_in 572 (by decide +kernel) (by decide +kernel)) (fd_in 574 (by decide +kernel) (by decide +kernel)) (fd_in 573 (by decide +kernel) (by decide +kernel)) (fd_in 77 (by decide +kernel) (by decide +kernel)) (by decide) (by decide) (by decide) (by decide) (by decide) (fun _ _ => rfl) (by decide) (by decide) dX5_copyFrom_68 ?_
    exact r_keep [0, 1] rfl (s2 _ (h.step (r := 1) (by decide) (by decide) rfl))
  refine r_aload_n dX5_copyFrom_0 rfl ?_
  refine r_aload_n dX5_copyFrom_1 rfl ?_
  refine r_getI rfl rfl fl_5_46 dX5_copyFrom_2 ?_
  refine r_putI rfl rfl fl_5_46 fw_5_0 dX5_copyFrom_5 ?_
  refine r_aload_n dX5_copyFrom_8 rfl ?_
  refine r_aload_n dX5_copyFrom_9 rfl ?_
  refine r_getV rfl rfl fl_5_50 dX5_copyFrom_10 (Eq.trans (fd_up_ne (by decide)) rfl) ?_
  refine r_putI rfl rfl fl_5_50 fw_5_1 dX5_copyFrom_13 ?_
  refine r_aload_n dX5_copyFrom_16 rfl ?_
  refine r_aload_n dX5_copyFrom_17 rfl ?_
  refine r_getV rfl rfl fl_5_53 dX5_copyFrom_18 (Eq.trans (fd_up_ne (by decide)) (Eq.trans (fd_up_ne (by decide)) rfl)) ?_
  refine r_putI rfl rfl fl_5_53 fw_5_2 dX5_copyFrom_21 ?_
  refine r_aload_n dX5_copyFrom_24 rfl ?_
  refine r_aload_n dX5_copyFrom_25 rfl ?_
  refine r_getV rfl rfl fl_5_56 dX5_copyFrom_26 (Eq.trans (fd_up_ne (by decide)) (Eq.trans (fd_up_ne (by decide)) (Eq.trans (fd_up_ne (by decide)) rfl))) ?_
  refine r_putI rfl rfl fl_5_56 fw_5_3 dX5_copyFrom_29 ?_
  refine r_aload_n dX5_copyFrom_32 rfl ?_
  refine r_aload_n dX5_copyFrom_33 rfl ?_
  refine r_getV rfl rfl fl_5_59 dX5_copyFrom_34 (Eq.trans (fd_up_ne (by decide)) (Eq.trans (fd_up_ne (by decide)) (Eq.trans (fd_up_ne (by decide)) (Eq.trans (fd_up_ne (by decide)) rfl)))) ?_
  refine r_putI rfl rfl fl_5_59 fw_5_4 dX5_copyFrom_37 ?_
  refine r_aload_n dX5_copyFrom_40 rfl ?_
  refine r_aload_n dX5_copyFrom_41 rfl ?_
  refine r_getV rfl rfl fl_5_62 dX5_copyFrom_42 (Eq.trans (fd_up_ne (by decide)) (Eq.trans (fd_up_ne (by decide)) (Eq.trans (fd_up_ne (by decide)) (Eq.trans (fd_up_ne (by decide)) (Eq.trans (fd_up_ne (by decide)) rfl))))) ?_
  refine r_putI rfl rfl fl_5_62 fw_5_5 dX5_copyFrom_45 ?_
  refine r_aload_n dX5_copyFrom_48 rfl ?_
  refine r_aload_n dX5_copyFrom_49 rfl ?_
  refine r_getV rfl rfl fl_5_65 dX5_copyFrom_50 (Eq.trans (fd_up_ne (by decide)) (Eq.trans (fd_up_ne (by decide)) (Eq.trans (fd_up_ne (by decide)) (Eq.trans (fd_up_ne (by decide)) (Eq.trans (fd_up_ne (by decide)) (Eq.trans (fd_up_ne (by decide)) rfl)))))) ?_
  refine r_putI rfl rfl fl_5_65 fw_5_6 dX5_copyFrom_53 ?_
  refine r_keep [0, 1] rfl (s1 _ ⟨fun a ha => ?_, fun j hj => ?_, fun q q1 q2 => absurd q2 (by omega)⟩)
  · rw [fd_up_cell (by omega), fd_up_cell (by omega), fd_up_cell (by omega), fd_up_cell (by omega), fd_up_cell (by omega), fd_up_cell (by omega), fd_up_cell (by omega)]
  · rcases (show j = 0 ∨ j = 1 ∨ j = 2 ∨ j = 3 ∨ j = 4 ∨ j = 5 ∨ j = 6 by omega) with rfl | rfl | rfl | rfl | rfl | rfl | rfl <;> simp [fd_up]
theorem c_X5_copy_19_8 (α : Nat → Nat) (I : fdI) (L : fdL) : Con fd_SX α yX5_copyFrom mX5_copyFrom [.ref (α 19), .ref (α 8)] I L (fd_vp (fun I' L' => L' = L ∧ cpR 19 8 11 I I')) := by
  refine Con.of (by decide) rfl (Nat.le_of_ble_eq_true rfl) ?_
  have s10 : ∀ I1 : fdI, cpR 19 8 10 I I1 → Rn fd_SX α mX5_copyFrom 191 [(0, .ref (α 19)), (1, .ref (α 8))] [] I1 L (fd_vp (fun I' L' => L' = L ∧ cpR 19 8 11 I I')) := by
    intro I1 h
    refine r_aload_n dX5_copyFrom_191 rfl ?_
    refine r_getR rfl rfl fl_5_39 dX5_copyFrom_192 ?_
    refine r_iconst (v := 0) dX5_copyFrom_195 rfl ?_
    refine r_aload_n dX5_copyFrom_196 rfl ?_
    refine r_getR rfl rfl fl_5_39 dX5_copyFrom_197 ?_
    refine r_iconst (v := 0) dX5_copyFrom_200 rfl ?_
    refine r_iconst (v := 3) dX5_copyFrom_201 rfl ?_
    refine r_copy rfl rfl (fun _ => rfl) rfl (fd_in 572 (by decide +kernel) (by decide +kernel)) (fd_in 574 (by decide +kernel) (by decide +kernel)) (fd_in 573 (by decide +kernel) (by decide +kernel)) (fd_in 77 (by decide +kernel) (by decide +kernel)) (by decide) (by decide) (by decide) (by decide) (by decide) (fun _ _ => rfl) (by decide) (by decide) dX5_copyFrom_202 ?_
    refine r_vret rfl dX5_copyFrom_205 ?_
    exact ⟨rfl, rfl, h.step (r := 10) (by decide) (by decide) rfl⟩
  have s9 : ∀ I1 : fdI, cpR 19 8 9 I I1 → Rn fd_SX α mX5_copyFrom 176 [(0, .ref (α 19)), (1, .ref (α 8))] [] I1 L (fd_vp (fun I' L' => L' = L ∧ cpR 19 8 11 I I')) := by
    intro I1 h
    refine r_aload_n dX5_copyFrom_176 rfl ?_
    refine r_getR rfl rfl fl_5_36 dX5_copyFrom_177 ?_
    refine r_iconst (v := 0) dX5_copyFrom_180 rfl ?_
    refine r_aload_n dX5_copyFrom_181 rfl ?_
    refine r_getR rfl rfl fl_5_36 dX5_copyFrom_182 ?_
    refine r_iconst (v := 0) dX5_copyFrom_185 rfl ?_
    refine r_bipush (v := 6) dX5_copyFrom_186 rfl ?_
    refine r_copy rfl rfl (fun _ => rfl) rfl (fd_in 572 (by decide +kernel) (by decide +kernel)) (fd_in 574 (by decide +kernel) (by decide +kernel)) (fd_in 573 (by decide +kernel) (by decide +kernel)) (fd_in 77 (by decide +kernel) (by decide +kernel)) (by decide) (by decide) (by decide) (by decide) (by decide) (fun _ _ => rfl) (by decide) (by decide) dX5_copyFrom_188 ?_
    exact r_keep [0, 1] rfl (s10 _ (h.step (r := 9) (by decide) (by decide) rfl))
  have s8 : ∀ I1 : fdI, cpR 19 8 8 I I1 → Rn fd_SX α mX5_copyFrom 161 [(0, .ref (α 19)), (1, .ref (α 8))] [] I1 L (fd_vp (fun I' L' => L' = L ∧ cpR 19 8 11 I I')) := by
    intro I1 h
    refine r_aload_n dX5_copyFrom_161 rfl ?_
    refine r_getR rfl rfl fl_5_33 dX5_copyFrom_162 ?_
    refine r_iconst (v := 0) dX5_copyFrom_165 rfl ?_
    refine r_aload_n dX5_copyFrom_166 rfl ?_
    refine r_getR rfl rfl fl_5_33 dX5_copyFrom_167 ?_
    refine r_iconst (v := 0) dX5_copyFrom_170 rfl ?_
    refine r_bipush (v := 6) dX5_copyFrom_171 rfl ?_
    refine r_copy rfl rfl (fun _ => rfl) rfl (fd_in 572 (by decide +kernel) (by decide +kernel)) (fd_in 574 (by decide +kernel) (by decide +kernel)) (fd_in 573 (by decide +kernel) (by decide +kernel)) (fd_in 77 (by decide +kernel) (by decide +kernel)) (by decide) (by decide) (by decide) (by decide) (by decide) (fun _ _ => rfl) (by decide) (by decide) dX5_copyFrom_173 ?_
    exact r_keep [0, 1] rfl (s9 _ (h.step (r := 8) (by decide) (by decide) rfl))
  have s7 : ∀ I1 : fdI, cpR 19 8 7 I I1 → Rn fd_SX α mX5_copyFrom 146 [(0, .ref (α 19)), (1, .ref (α 8))] [] I1 L (fd_vp (fun I' L' => L' = L ∧ cpR 19 8 11 I I')) := by
    intro I1 h
    refine r_aload_n dX5_copyFrom_146 rfl ?_
    refine r_getR rfl rfl fl_5_30 dX5_copyFrom_147 ?_
    refine r_iconst (v := 0) dX5_copyFrom_150 rfl ?_
    refine r_aload_n dX5_copyFrom_151 rfl ?_
    refine r_getR rfl rfl fl_5_30 dX5_copyFrom_152 ?_
    refine r_iconst (v := 0) dX5_copyFrom_155 rfl ?_
    refine r_bipush (v := 6) dX5_copyFrom_156 rfl ?_
    refine r_copy rfl rfl (fun _ => rfl) rfl (fd_in 572 (by decide +kernel) (by decide +kernel)) (fd_in 574 (by decide +kernel) (by decide +kernel)) (fd_in 573 (by decide +kernel) (by decide +kernel)) (fd_in 77 (by decide +kernel) (by decide +kernel)) (by decide) (by decide) (by decide) (by decide) (by decide) (fun _ _ => rfl) (by decide) (by decide) dX5_copyFrom_158 ?_
    exact r_keep [0, 1] rfl (s8 _ (h.step (r := 7) (by decide) (by decide) rfl))
  have s6 : ∀ I1 : fdI, cpR 19 8 6 I I1 → Rn fd_SX α mX5_copyFrom 131 [(0, .ref (α 19)), (1, .ref (α 8))] [] I1 L (fd_vp (fun I' L' => L' = L ∧ cpR 19 8 11 I I')) := by
    intro I1 h
    refine r_aload_n dX5_copyFrom_131 rfl ?_
    refine r_getR rfl rfl fl_5_27 dX5_copyFrom_132 ?_
    refine r_iconst (v := 0) dX5_copyFrom_135 rfl ?_
    refine r_aload_n dX5_copyFrom_136 rfl ?_
    refine r_getR rfl rfl fl_5_27 dX5_copyFrom_137 ?_
    refine r_iconst (v := 0) dX5_copyFrom_140 rfl ?_
    refine r_bipush (v := 6) dX5_copyFrom_141 rfl ?_
    refine r_copy rfl rfl (fun _ => rfl) rfl (fd_in 572 (by decide +kernel) (by decide +kernel)) (fd_in 574 (by decide +kernel) (by decide +kernel)) (fd_in 573 (by decide +kernel) (by decide +kernel)) (fd_in 77 (by decide +kernel) (by decide +kernel)) (by decide) (by decide) (by decide) (by decide) (by decide) (fun _ _ => rfl) (by decide) (by decide) dX5_copyFrom_143 ?_
    exact r_keep [0, 1] rfl (s7 _ (h.step (r := 6) (by decide) (by decide) rfl))
  have s5 : ∀ I1 : fdI, cpR 19 8 5 I I1 → Rn fd_SX α mX5_copyFrom 116 [(0, .ref (α 19)), (1, .ref (α 8))] [] I1 L (fd_vp (fun I' L' => L' = L ∧ cpR 19 8 11 I I')) := by
    intro I1 h
    refine r_aload_n dX5_copyFrom_116 rfl ?_
    refine r_getR rfl rfl fl_5_24 dX5_copyFrom_117 ?_
    refine r_iconst (v := 0) dX5_copyFrom_120 rfl ?_
    refine r_aload_n dX5_copyFrom_121 rfl ?_
    refine r_getR rfl rfl fl_5_24 dX5_copyFrom_122 ?_
    refine r_iconst (v := 0) dX5_copyFrom_125 rfl ?_
    refine r_bipush (v := 7) dX5_copyFrom_126 rfl ?_
    refine r_copy rfl rfl (fun _ => rfl) rfl (fd_in 572 (by decide +kernel) (by decide +kernel)) (fd_in 574 (by decide +kernel) (by decide +kernel)) (fd_in 573 (by decide +kernel) (by decide +kernel)) (fd_in 77 (by decide +kernel) (by decide +kernel)) (by decide) (by decide) (by decide) (by decide) (by decide) (fun _ _ => rfl) (by decide) (by decide) dX5_copyFrom_128 ?_
    exact r_keep [0, 1] rfl (s6 _ (h.step (r := 5) (by decide) (by decide) rfl))
  have s4 : ∀ I1 : fdI, cpR 19 8 4 I I1 → Rn fd_SX α mX5_copyFrom 101 [(0, .ref (α 19)), (1, .ref (α 8))] [] I1 L (fd_vp (fun I' L' => L' = L ∧ cpR 19 8 11 I I')) := by
    intro I1 h
    refine r_aload_n dX5_copyFrom_101 rfl ?_
    refine r_getR rfl rfl fl_5_21 dX5_copyFrom_102 ?_
    refine r_iconst (v := 0) dX5_copyFrom_105 rfl ?_
    refine r_aload_n dX5_copyFrom_106 rfl ?_
    refine r_getR rfl rfl fl_5_21 dX5_copyFrom_107 ?_
    refine r_iconst (v := 0) dX5_copyFrom_110 rfl ?_
    refine r_bipush (v := 7) dX5_copyFrom_111 rfl ?_
    refine r_copy rfl rfl (fun _ => rfl) rfl (fd_in 572 (by decide +kernel) (by decide +kernel)) (fd_in 574 (by decide +kernel) (by decide +kernel)) (fd_in 573 (by decide +kernel) (by decide +kernel)) (fd_in 77 (by decide +kernel) (by decide +kernel)) (by decide) (by decide) (by decide) (by decide) (by decide) (fun _ _ => rfl) (by decide) (by decide) dX5_copyFrom_113 ?_
    exact r_keep [0, 1] rfl (s5 _ (h.step (r := 4) (by decide) (by decide) rfl))
  have s3 : ∀ I1 : fdI, cpR 19 8 3 I I1 → Rn fd_SX α mX5_copyFrom 86 [(0, .ref (α 19)), (1, .ref (α 8))] [] I1 L (fd_vp (fun I' L' => L' = L ∧ cpR 19 8 11 I I')) := by
    intro I1 h
    refine r_aload_n dX5_copyFrom_86 rfl ?_
    refine r_getR rfl rfl fl_5_18 dX5_copyFrom_87 ?_
    refine r_iconst (v := 0) dX5_copyFrom_90 rfl ?_
    refine r_aload_n dX5_copyFrom_91 rfl ?_
    refine r_getR rfl rfl fl_5_18 dX5_copyFrom_92 ?_
    refine r_iconst (v := 0) dX5_copyFrom_95 rfl ?_
    refine r_bipush (v := 7) dX5_copyFrom_96 rfl ?_
    refine r_copy rfl rfl (fun _ => rfl) rfl (fd_in 572 (by decide +kernel) (by decide +kernel)) (fd_in 574 (by decide +kernel) (by decide +kernel)) (fd_in 573 (by decide +kernel) (by decide +kernel)) (fd_in 77 (by decide +kernel) (by decide +kernel)) (by decide) (by decide) (by decide) (by decide) (by decide) (fun _ _ => rfl) (by decide) (by decide) dX5_copyFrom_98 ?_
    exact r_keep [0, 1] rfl (s4 _ (h.step (r := 3) (by decide) (by decide) rfl))
  have s2 : ∀ I1 : fdI, cpR 19 8 2 I I1 → Rn fd_SX α mX5_copyFrom 71 [(0, .ref (α 19)), (1, .ref (α 8))] [] I1 L (fd_vp (fun I' L' => L' = L ∧ cpR 19 8 11 I I')) := by
    intro I1 h
    refine r_aload_n dX5_copyFrom_71 rfl ?_
    refine r_getR rfl rfl fl_5_15 dX5_copyFrom_72 ?_
    refine r_iconst (v := 0) dX5_copyFrom_75 rfl ?_
    refine r_aload_n dX5_copyFrom_76 rfl ?_
    refine r_getR rfl rfl fl_5_15 dX5_copyFrom_77 ?_
    refine r_iconst (v := 0) dX5_copyFrom_80 rfl ?_
    refine r_bipush (v := 7) dX5_copyFrom_81 rfl ?_
    refine r_copy rfl rfl (fun _ => rfl) rfl (fd_in 572 (by decide +kernel) (by decide +kernel)) (fd_in 574 (by decide +kernel) (by decide +kernel)) (fd_in 573 (by decide +kernel) (by decide +kernel)) (fd_in 77 (by decide +kernel) (by decide +kernel)) (by decide) (by decide) (by decide) (by decide) (by decide) (fun _ _ => rfl) (by decide) (by decide) dX5_copyFrom_83 ?_
    exact r_keep [0, 1] rfl (s3 _ (h.step (r := 2) (by decide) (by decide) rfl))
  have s1 : ∀ I1 : fdI, cpR 19 8 1 I I1 → Rn fd_SX α mX5_copyFrom 56 [(0, .ref (α 19)), (1, .ref (α 8))] [] I1 L (fd_vp (fun I' L' => L' = L ∧ cpR 19 8 11 I I')) := by
    intro I1 h
    refine r_aload_n dX5_copyFrom_56 rfl ?_
    refine r_getR rfl rfl fl_5_9 dX5_copyFrom_57 ?_
    refine r_iconst (v := 0) dX5_copyFrom_60 rfl ?_
    refine r_aload_n dX5_copyFrom_61 rfl ?_
    refine r_getR rfl rfl fl_5_9 dX5_copyFrom_62 ?_
    refine r_iconst (v := 0) dX5_copyFrom_65 rfl ?_
    refine r_bipush (v := 7) dX5_copyFrom_66 rfl ?_
    refine r_copy rfl rfl (fun _ => rfl) rfl (fd_in 572 (by decide +kernel) (by decide +kernel)) (fd_in 574 (by decide +kernel) (by decide +kernel)) (fd_in 573 (by decide +kernel) (by decide +kernel)) (fd_in 77 (by decide +kernel) (by decide +kernel)) (by decide) (by decide) (by decide) (by decide) (by decide) (fun _ _ => rfl) (by decide) (by decide) dX5_copyFrom_68 ?_
    exact r_keep [0, 1] rfl (s2 _ (h.step (r := 1) (by decide) (by decide) rfl))
  refine r_aload_n dX5_copyFrom_0 rfl ?_
  refine r_aload_n dX5_copyFrom_1 rfl ?_
  refine r_getI rfl rfl fl_5_46 dX5_copyFrom_2 ?_
  refine r_putI rfl rfl fl_5_46 fw_5_0 dX5_copyFrom_5 ?_
  refine r_aload_n dX5_copyFrom_8 rfl ?_
  refine r_aload_n dX5_copyFrom_9 rfl ?_
  refine r_getV rfl rfl fl_5_50 dX5_copyFrom_10 (Eq.trans (fd_up_ne (by decide)) rfl) ?_
  refine r_putI rfl rfl fl_5_50 fw_5_1 dX5_copyFrom_13 ?_
  refine r_aload_n dX5_copyFrom_16 rfl ?_
  refine r_aload_n dX5_copyFrom_17 rfl ?_
  refine r_getV rfl rfl fl_5_53 dX5_copyFrom_18 (Eq.trans (fd_up_ne (by decide)) (Eq.trans (fd_up_ne (by decide)) rfl)) ?_
  refine r_putI rfl rfl fl_5_53 fw_5_2 dX5_copyFrom_21 ?_
  refine r_aload_n dX5_copyFrom_24 rfl ?_
  refine r_aload_n dX5_copyFrom_25 rfl ?_
  refine r_getV rfl rfl fl_5_56 dX5_copyFrom_26 (Eq.trans (fd_up_ne (by decide)) (Eq.trans (fd_up_ne (by decide)) (Eq.trans (fd_up_ne (by decide)) rfl))) ?_
  refine r_putI rfl rfl fl_5_56 fw_5_3 dX5_copyFrom_29 ?_
  refine r_aload_n dX5_copyFrom_32 rfl ?_
  refine r_aload_n dX5_copyFrom_33 rfl ?_
  refine r_getV rfl rfl fl_5_59 dX5_copyFrom_34 (Eq.trans (fd_up_ne (by decide)) (Eq.trans (fd_up_ne (by decide)) (Eq.trans (fd_up_ne (by decide)) (Eq.trans (fd_up_ne (by decide)) rfl)))) ?_
  refine r_putI rfl rfl fl_5_59 fw_5_4 dX5_copyFrom_37 ?_
  refine r_aload_n dX5_copyFrom_40 rfl ?_
  refine r_aload_n dX5_copyFrom_41 rfl ?_
  refine r_getV rfl rfl fl_5_62 dX5_copyFrom_42 (Eq.trans (fd_up_ne (by decide)) (Eq.trans (fd_up_ne (by decide)) (Eq.trans (fd_up_ne (by decide)) (Eq.trans (fd_up_ne (by decide)) (Eq.trans (fd_up_ne (by decide)) rfl))))) ?_
  refine r_putI rfl rfl fl_5_62 fw_5_5 dX5_copyFrom_45 ?_
  refine r_aload_n dX5_copyFrom_48 rfl ?_
  refine r_aload_n dX5_copyFrom_49 rfl ?_
  refine r_getV rfl rfl fl_5_65 dX5_copyFrom_50 (Eq.trans (fd_up_ne (by decide)) (Eq.trans (fd_up_ne (by decide)) (Eq.trans (fd_up_ne (by decide)) (Eq.trans (fd_up_ne (by decide)) (Eq.trans (fd_up_ne (by decide)) (Eq.trans (fd_up_ne (by decide)) rfl)))))) ?_
  refine r_putI rfl rfl fl_5_65 fw_5_6 dX5_copyFrom_53 ?_
  refine r_keep [0, 1] rfl (s1 _ ⟨fun a ha => ?_, fun j hj => ?_, fun q q1 q2 => absurd q2 (by omega)⟩)
  · rw [fd_up_cell (by omega), fd_up_cell (by omega), fd_up_cell (by omega), fd_up_cell (by omega), fd_up_cell (by omega), fd_up_cell (by omega), fd_up_cell (by omega)]
  · rcases (show j = 0 ∨ j = 1 ∨ j = 2 ∨ j = 3 ∨ j = 4 ∨ j = 5 ∨ j = 6 by omega) with rfl | rfl | rfl | rfl | rfl | rfl | rfl <;> simp [fd_up]
theorem c_X5_copy_8_30 (α : Nat → Nat) (I : fdI) (L : fdL) : Con fd_SX α yX5_copyFrom mX5_copyFrom [.ref (α 8), .ref (α 30)] I L (fd_vp (fun I' L' => L' = L ∧ cpR 8 30 11 I I')) := by
  refine Con.of (by decide) rfl (Nat.le_of_ble_eq_true rfl) ?_
  have s10 : ∀ I1 : fdI, cpR 8 30 10 I I1 → Rn fd_SX α mX5_copyFrom 191 [(0, .ref (α 8)), (1, .ref (α 30))] [] I1 L (fd_vp (fun I' L' => L' = L ∧ cpR 8 30 11 I I')) := by
    intro I1 h
    refine r_aload_n dX5_copyFrom_191 rfl ?_
    refine r_getR rfl rfl fl_5_39 dX5_copyFrom_192 ?_
    refine r_iconst (v := 0) dX5_copyFrom_195 rfl ?_
    refine r_aload_n dX5_copyFrom_196 rfl ?_
    refine r_getR rfl rfl fl_5_39 dX5_copyFrom_197 ?_
    refine r_iconst (v := 0) dX5_copyFrom_200 rfl ?_
    refine r_iconst (v := 3) dX5_copyFrom_201 rfl ?_
    refine r_copy rfl rfl (fun _ => rfl) rfl (fd_in 572 (by decide +kernel) (by decide +kernel)) (fd_in 574 (by decide +kernel) (by decide +kernel)) (fd_in 573 (by decide +kernel) (by decide +kernel)) (fd_in 77 (by decide +kernel) (by decide +kernel)) (by decide) (by decide) (by decide) (by decide) (by decide) (fun _ _ => rfl) (by decide) (by decide) dX5_copyFrom_202 ?_
    refine r_vret rfl dX5_copyFrom_205 ?_
    exact ⟨rfl, rfl, h.step (r := 10) (by decide) (by decide) rfl⟩
  have s9 : ∀ I1 : fdI, cpR 8 30 9 I I1 → Rn fd_SX α mX5_copyFrom 176 [(0, .ref (α 8)), (1, .ref (α 30))] [] I1 L (fd_vp (fun I' L' => L' = L ∧ cpR 8 30 11 I I')) := by
    intro I1 h
    refine r_aload_n dX5_copyFrom_176 rfl ?_
    refine r_getR rfl rfl fl_5_36 dX5_copyFrom_177 ?_
    refine r_iconst (v := 0) dX5_copyFrom_180 rfl ?_
    refine r_aload_n dX5_copyFrom_181 rfl ?_
    refine r_getR rfl rfl fl_5_36 dX5_copyFrom_182 ?_
    refine r_iconst (v := 0) dX5_copyFrom_185 rfl ?_
    refine r_bipush (v := 6) dX5_copyFrom_186 rfl ?_
    refine r_copy rfl rfl (fun _ => rfl) rfl (fd_in 572 (by decide +kernel) (by decide +kernel)) (fd_in 574 (by decide +kernel) (by decide +kernel)) (fd_in 573 (by decide +kernel) (by decide +kernel)) (fd_in 77 (by decide +kernel) (by decide +kernel)) (by decide) (by decide) (by decide) (by decide) (by decide) (fun _ _ => rfl) (by decide) (by decide) dX5_copyFrom_188 ?_
    exact r_keep [0, 1] rfl (s10 _ (h.step (r := 9) (by decide) (by decide) rfl))
  have s8 : ∀ I1 : fdI, cpR 8 30 8 I I1 → Rn fd_SX α mX5_copyFrom 161 [(0, .ref (α 8)), (1, .ref (α 30))] [] I1 L (fd_vp (fun I' L' => L' = L ∧ cpR 8 30 11 I I')) := by
    intro I1 h
    refine r_aload_n dX5_copyFrom_161 rfl ?_
    refine r_getR rfl rfl fl_5_33 dX5_copyFrom_162 ?_
    refine r_iconst (v := 0) dX5_copyFrom_165 rfl ?_
    refine r_aload_n dX5_copyFrom_166 rfl ?_
    refine r_getR rfl rfl fl_5_33 dX5_copyFrom_167 ?_
    refine r_iconst (v := 0) dX5_copyFrom_170 rfl ?_
    refine r_bipush (v := 6) dX5_copyFrom_171 rfl ?_
    refine r_copy rfl rfl (fun _ => rfl) rfl (fd_in 572 (by decide +kernel) (by decide +kernel)) (fd_in 574 (by decide +kernel) (by decide +kernel)) (fd_in 573 (by decide +kernel) (by decide +kernel)) (fd_in 77 (by decide +kernel) (by decide +kernel)) (by decide) (by decide) (by decide) (by decide) (by decide) (fun _ _ => rfl) (by decide) (by decide) dX5_copyFrom_173 ?_
    exact r_keep [0, 1] rfl (s9 _ (h.step (r := 8) (by decide) (by decide) rfl))
  have s7 : ∀ I1 : fdI, cpR 8 30 7 I I1 → Rn fd_SX α mX5_copyFrom 146 [(0, .ref (α 8)), (1, .ref (α 30))] [] I1 L (fd_vp (fun I' L' => L' = L ∧ cpR 8 30 11 I I')) := by
    intro I1 h
    refine r_aload_n dX5_copyFrom_146 rfl ?_
    refine r_getR rfl rfl fl_5_30 dX5_copyFrom_147 ?_
    refine r_iconst (v := 0) dX5_copyFrom_150 rfl ?_
    refine r_aload_n dX5_copyFrom_151 rfl ?_
    refine r_getR rfl rfl fl_5_30 dX5_copyFrom_152 ?_
    refine r_iconst (v := 0) dX5_copyFrom_155 rfl ?_
    refine r_bipush (v := 6) dX5_copyFrom_156 rfl ?_
    refine r_copy rfl rfl (fun _ => rfl) rfl (fd_in 572 (by decide +kernel) (by decide +kernel)) (fd_in 574 (by decide +kernel) (by decide +kernel)) (fd_in 573 (by decide +kernel) (by decide +kernel)) (fd_in 77 (by decide +kernel) (by decide +kernel)) (by decide) (by decide) (by decide) (by decide) (by decide) (fun _ _ => rfl) (by decide) (by decide) dX5_copyFrom_158 ?_
    exact r_keep [0, 1] rfl (s8 _ (h.step (r := 7) (by decide) (by decide) rfl))
  have s6 : ∀ I1 : fdI, cpR 8 30 6 I I1 → Rn fd_SX α mX5_copyFrom 131 [(0, .ref (α 8)), (1, .ref (α 30))] [] I1 L (fd_vp (fun I' L' => L' = L ∧ cpR 8 30 11 I I')) := by
    intro I1 h
    refine r_aload_n dX5_copyFrom_131 rfl ?_
    refine r_getR rfl rfl fl_5_27 dX5_copyFrom_132 ?_
    refine r_iconst (v := 0) dX5_copyFrom_135 rfl ?_
    refine r_aload_n dX5_copyFrom_136 rfl ?_
    refine r_getR rfl rfl fl_5_27 dX5_copyFrom_137 ?_
    refine r_iconst (v := 0) dX5_copyFrom_140 rfl ?_
    refine r_bipush (v := 6) dX5_copyFrom_141 rfl ?_
    refine r_copy rfl rfl (fun _ => rfl) rfl (fd_in 572 (by decide +kernel) (by decide +kernel)) (fd_in 574 (by decide +kernel) (by decide +kernel)) (fd_in 573 (by decide +kernel) (by decide +kernel)) (fd_in 77 (by decide +kernel) (by decide +kernel)) (by decide) (by decide) (by decide) (by decide) (by decide) (fun _ _ => rfl) (by decide) (by decide) dX5_copyFrom_143 ?_
    exact r_keep [0, 1] rfl (s7 _ (h.step (r := 6) (by decide) (by decide) rfl))
  have s5 : ∀ I1 : fdI, cpR 8 30 5 I I1 → Rn fd_SX α mX5_copyFrom 116 [(0, .ref (α 8)), (1, .ref (α 30))] [] I1 L (fd_vp (fun I' L' => L' = L ∧ cpR 8 30 11 I I')) := by
    intro I1 h
    refine r_aload_n dX5_copyFrom_116 rfl ?_
    refine r_getR rfl rfl fl_5_24 dX5_copyFrom_117 ?_
    refine r_iconst (v := 0) dX5_copyFrom_120 rfl ?_
    refine r_aload_n dX5_copyFrom_121 rfl ?_
    refine r_getR rfl rfl fl_5_24 dX5_copyFrom_122 ?_
    refine r_iconst (v := 0) dX5_copyFrom_125 rfl ?_
    refine r_bipush (v := 7) dX5_copyFrom_126 rfl ?_
    refine r_copy rfl rfl (fun _ => rfl) rfl (fd_in 572 (by decide +kernel) (by decide +kernel)) (fd_in 574 (by decide +kernel) (by decide +kernel)) (fd_in 573 (by decide +kernel) (by decide +kernel)) (fd_in 77 (by decide +kernel) (by decide +kernel)) (by decide) (by decide) (by decide) (by decide) (by decide) (fun _ _ => rfl) (by decide) (by decide) dX5_copyFrom_128 ?_
    exact r_keep [0, 1] rfl (s6 _ (h.step (r := 5) (by decide) (by decide) rfl))
  have s4 : ∀ I1 : fdI, cpR 8 30 4 I I1 → Rn fd_SX α mX5_copyFrom 101 [(0, .ref (α 8)), (1, .ref (α 30))] [] I1 L (fd_vp (fun I' L' => L' = L ∧ cpR 8 30 11 I I')) := by
    intro I1 h
    refine r_aload_n dX5_copyFrom_101 rfl ?_
    refine r_getR rfl rfl fl_5_21 dX5_copyFrom_102 ?_
    refine r_iconst (v := 0) dX5_copyFrom_105 rfl ?_
    refine r_aload_n dX5_copyFrom_106 rfl ?_
    refine r_getR rfl rfl fl_5_21 dX5_copyFrom_107 ?_
    refine r_iconst (v := 0) dX5_copyFrom_110 rfl ?_
    refine r_bipush (v := 7) dX5_copyFrom_111 rfl ?_
    refine r_copy rfl rfl (fun _ => rfl) rfl (fd_in 572 (by decide +kernel) (by decide +kernel)) (fd_in 574 (by decide +kernel) (by decide +kernel)) (fd_in 573 (by decide +kernel) (by decide +kernel)) (fd_in 77 (by decide +kernel) (by decide +kernel)) (by decide) (by decide) (by decide) (by decide) (by decide) (fun _ _ => rfl) (by decide) (by decide) dX5_copyFrom_113 ?_
    exact r_keep [0, 1] rfl (s5 _ (h.step (r := 4) (by decide) (by decide) rfl))
  have s3 : ∀ I1 : fdI, cpR 8 30 3 I I1 → Rn fd_SX α mX5_copyFrom 86 [(0, .ref (α 8)), (1, .ref (α 30))] [] I1 L (fd_vp (fun I' L' => L' = L ∧ cpR 8 30 11 I I')) := by
    intro I1 h
    refine r_aload_n dX5_copyFrom_86 rfl ?_
    refine r_getR rfl rfl fl_5_18 dX5_copyFrom_87 ?_
    refine r_iconst (v := 0) dX5_copyFrom_90 rfl ?_
    refine r_aload_n dX5_copyFrom_91 rfl ?_
    refine r_getR rfl rfl fl_5_18 dX5_copyFrom_92 ?_
    refine r_iconst (v := 0) dX5_copyFrom_95 rfl ?_
    refine r_bipush (v := 7) dX5_copyFrom_96 rfl ?_
    refine r_copy rfl rfl (fun _ => rfl) rfl (fd_in 572 (by decide +kernel) (by decide +kernel)) (fd_in 574 (by decide +kernel) (by decide +kernel)) (fd_in 573 (by decide +kernel) (by decide +kernel)) (fd_in 77 (by decide +kernel) (by decide +kernel)) (by decide) (by decide) (by decide) (by decide) (by decide) (fun _ _ => rfl) (by decide) (by decide) dX5_copyFrom_98 ?_
    exact r_keep [0, 1] rfl (s4 _ (h.step (r := 3) (by decide) (by decide) rfl))
  have s2 : ∀ I1 : fdI, cpR 8 30 2 I I1 → Rn fd_SX α mX5_copyFrom 71 [(0, .ref (α 8)), (1, .ref (α 30))] [] I1 L (fd_vp (fun I' L' => L' = L ∧ cpR 8 30 11 I I')) := by
    intro I1 h
    refine r_aload_n dX5_copyFrom_71 rfl ?_
    refine r_getR rfl rfl fl_5_15 dX5_copyFrom_72 ?_
    refine r_iconst (v := 0) dX5_copyFrom_75 rfl ?_
    refine r_aload_n dX5_copyFrom_76 rfl ?_
    refine r_getR rfl rfl fl_5_15 dX5_copyFrom_77 ?_
    refine r_iconst (v := 0) dX5_copyFrom_80 rfl ?_
    refine r_bipush (v := 7) dX5_copyFrom_81 rfl ?_
    refine r_copy rfl rfl (fun _ => rfl) rfl (fd_in 572 (by decide +kernel) (by decide +kernel)) (fd_in 574 (by decide +kernel) (by decide +kernel)) (fd_in 573 (by decide +kernel) (by decide +kernel)) (fd_in 77 (by decide +kernel) (by decide +kernel)) (by decide) (by decide) (by decide) (by decide) (by decide) (fun _ _ => rfl) (by decide) (by decide) dX5_copyFrom_83 ?_
    exact r_keep [0, 1] rfl (s3 _ (h.step (r := 2) (by decide) (by decide) rfl))
  have s1 : ∀ I1 : fdI, cpR 8 30 1 I I1 → Rn fd_SX α mX5_copyFrom 56 [(0, .ref (α 8)), (1, .ref (α 30))] [] I1 L (fd_vp (fun I' L' => L' = L ∧ cpR 8 30 11 I I')) := by
    intro I1 h
    refine r_aload_n dX5_copyFrom_56 rfl ?_
    refine r_getR rfl rfl fl_5_9 dX5_copyFrom_57 ?_
    refine r_iconst (v := 0) dX5_copyFrom_60 rfl ?_
    refine r_aload_n dX5_copyFrom_61 rfl ?_
    refine r_getR rfl rfl fl_5_9 dX5_copyFrom_62 ?_
    refine r_iconst (v := 0) dX5_copyFrom_65 rfl ?_
    refine r_bipush (v := 7) dX5_copyFrom_66 rfl ?_
    refine r_copy rfl rfl (fun _ => rfl) rfl (fd_in 572 (by decide +kernel) (by decide +kernel)) (fd_in 574 (by decide +kernel) (by decide +kernel)) (fd_in 573 (by decide +kernel) (by decide +kernel)) (fd_in 77 (by decide +kernel) (by decide +kernel)) (by decide) (by decide) (by decide) (by decide) (by decide) (fun _ _ => rfl) (by decide) (by decide) dX5_copyFrom_68 ?_
    exact r_keep [0, 1] rfl (s2 _ (h.step (r := 1) (by decide) (by decide) rfl))
  refine r_aload_n dX5_copyFrom_0 rfl ?_
  refine r_aload_n dX5_copyFrom_1 rfl ?_
  refine r_getI rfl rfl fl_5_46 dX5_copyFrom_2 ?_
  refine r_putI rfl rfl fl_5_46 fw_5_0 dX5_copyFrom_5 ?_
  refine r_aload_n dX5_copyFrom_8 rfl ?_
  refine r_aload_n dX5_copyFrom_9 rfl ?_
  refine r_getV rfl rfl fl_5_50 dX5_copyFrom_10 (Eq.trans (fd_up_ne (by decide)) rfl) ?_
  refine r_putI rfl rfl fl_5_50 fw_5_1 dX5_copyFrom_13 ?_
  refine r_aload_n dX5_copyFrom_16 rfl ?_
  refine r_aload_n dX5_copyFrom_17 rfl ?_
  refine r_getV rfl rfl fl_5_53 dX5_copyFrom_18 (Eq.trans (fd_up_ne (by decide)) (Eq.trans (fd_up_ne (by decide)) rfl)) ?_
  refine r_putI rfl rfl fl_5_53 fw_5_2 dX5_copyFrom_21 ?_
  refine r_aload_n dX5_copyFrom_24 rfl ?_
  refine r_aload_n dX5_copyFrom_25 rfl ?_
  refine r_getV rfl rfl fl_5_56 dX5_copyFrom_26 (Eq.trans (fd_up_ne (by decide)) (Eq.trans (fd_up_ne (by decide)) (Eq.trans (fd_up_ne (by decide)) rfl))) ?_
  refine r_putI rfl rfl fl_5_56 fw_5_3 dX5_copyFrom_29 ?_
  refine r_aload_n dX5_copyFrom_32 rfl ?_
  refine r_aload_n dX5_copyFrom_33 rfl ?_
  refine r_getV rfl rfl fl_5_59 dX5_copyFrom_34 (Eq.trans (fd_up_ne (by decide)) (Eq.trans (fd_up_ne (by decide)) (Eq.trans (fd_up_ne (by decide)) (Eq.trans (fd_up_ne (by decide)) rfl)))) ?_
  refine r_putI rfl rfl fl_5_59 fw_5_4 dX5_copyFrom_37 ?_
  refine r_aload_n dX5_copyFrom_40 rfl ?_
  refine r_aload_n dX5_copyFrom_41 rfl ?_
  refine r_getV rfl rfl fl_5_62 dX5_copyFrom_42 (Eq.trans (fd_up_ne (by decide)) (Eq.trans (fd_up_ne (by decide)) (Eq.trans (fd_up_ne (by decide)) (Eq.trans (fd_up_ne (by decide)) (Eq.trans (fd_up_ne (by decide)) rfl))))) ?_
  refine r_putI rfl rfl fl_5_62 fw_5_5 dX5_copyFrom_45 ?_
  refine r_aload_n dX5_copyFrom_48 rfl ?_
  refine r_aload_n dX5_copyFrom_49 rfl ?_
  refine r_getV rfl rfl fl_5_65 dX5_copyFrom_50 (Eq.trans (fd_up_ne (by decide)) (Eq.trans (fd_up_ne (by decide)) (Eq.trans (fd_up_ne (by decide)) (Eq.trans (fd_up_ne (by decide)) (Eq.trans (fd_up_ne (by decide)) (Eq.trans (fd_up_ne (by decide)) rfl)))))) ?_
  refine r_putI rfl rfl fl_5_65 fw_5_6 dX5_copyFrom_53 ?_
  refine r_keep [0, 1] rfl (s1 _ ⟨fun a ha => ?_, fun j hj => ?_, fun q q1 q2 => absurd q2 (by omega)⟩)
  · rw [fd_up_cell (by omega), fd_up_cell (by omega), fd_up_cell (by omega), fd_up_cell (by omega), fd_up_cell (by omega), fd_up_cell (by omega), fd_up_cell (by omega)]
  · rcases (show j = 0 ∨ j = 1 ∨ j = 2 ∨ j = 3 ∨ j = 4 ∨ j = 5 ∨ j = 6 by omega) with rfl | rfl | rfl | rfl | rfl | rfl | rfl <;> simp [fd_up]
theorem c_X5_copy_8_41 (α : Nat → Nat) (I : fdI) (L : fdL) : Con fd_SX α yX5_copyFrom mX5_copyFrom [.ref (α 8), .ref (α 41)] I L (fd_vp (fun I' L' => L' = L ∧ cpR 8 41 11 I I')) := by
  refine Con.of (by decide) rfl (Nat.le_of_ble_eq_true rfl) ?_
  have s10 : ∀ I1 : fdI, cpR 8 41 10 I I1 → Rn fd_SX α mX5_copyFrom 191 [(0, .ref (α 8)), (1, .ref (α 41))] [] I1 L (fd_vp (fun I' L' => L' = L ∧ cpR 8 41 11 I I')) := by
    intro I1 h
    refine r_aload_n dX5_copyFrom_191 rfl ?_
    refine r_getR rfl rfl fl_5_39 dX5_copyFrom_192 ?_
    refine r_iconst (v := 0) dX5_copyFrom_195 rfl ?_
    refine r_aload_n dX5_copyFrom_196 rfl ?_
    refine r_getR rfl rfl fl_5_39 dX5_copyFrom_197 ?_
    refine r_iconst (v := 0) dX5_copyFrom_200 rfl ?_
    refine r_iconst (v := 3) dX5_copyFrom_201 rfl ?_
    refine r_copy rfl rfl (fun _ => rfl) rfl (fd_in 572 (by decide +kernel) (by decide +kernel)) (fd_in 574 (by decide +kernel) (by decide +kernel)) (fd_in 573 (by decide +kernel) (by decide +kernel)) (fd_in 77 (by decide +kernel) (by decide +kernel)) (by decide) (by decide) (by decide) (by decide) (by decide) (fun _ _ => rfl) (by decide) (by decide) dX5_copyFrom_202 ?_
    refine r_vret rfl dX5_copyFrom_205 ?_
    exact ⟨rfl, rfl, h.step (r := 10) (by decide) (by decide) rfl⟩
  have s9 : ∀ I1 : fdI, cpR 8 41 9 I I1 → Rn fd_SX α mX5_copyFrom 176 [(0, .ref (α 8)), (1, .ref (α 41))] [] I1 L (fd_vp (fun I' L' => L' = L ∧ cpR 8 41 11 I I')) := by
    intro I1 h
    refine r_aload_n dX5_copyFrom_176 rfl ?_
    refine r_getR rfl rfl fl_5_36 dX5_copyFrom_177 ?_
    refine r_iconst (v := 0) dX5_copyFrom_180 rfl ?_
    refine r_aload_n dX5_copyFrom_181 rfl ?_
    refine r_getR rfl rfl fl_5_36 dX5_copyFrom_182 ?_
    refine r_iconst (v := 0) dX5_copyFrom_185 rfl ?_
    refine r_bipush (v := 6) dX5_copyFrom_186 rfl ?_
    refine r_copy rfl rfl (fun _ => rfl) rfl (fd_in 572 (by decide +kernel) (by decide +kernel)) (fd_in 574 (by decide +kernel) (by decide +kernel)) (fd_in 573 (by decide +kernel) (by decide +kernel)) (fd_in 77 (by decide +kernel) (by decide +kernel)) (by decide) (by decide) (by decide) (by decide) (by decide) (fun _ _ => rfl) (by decide) (by decide) dX5_copyFrom_188 ?_
    exact r_keep [0, 1] rfl (s10 _ (h.step (r := 9) (by decide) (by decide) rfl))
  have s8 : ∀ I1 : fdI, cpR 8 41 8 I I1 → Rn fd_SX α mX5_copyFrom 161 [(0, .ref (α 8)), (1, .ref (α 41))] [] I1 L (fd_vp (fun I' L' => L' = L ∧ cpR 8 41 11 I I')) := by
    intro I1 h
    refine r_aload_n dX5_copyFrom_161 rfl ?_
    refine r_getR rfl rfl fl_5_33 dX5_copyFrom_162 ?_
    refine r_iconst (v := 0) dX5_copyFrom_165 rfl ?_
    refine r_aload_n dX5_copyFrom_166 rfl ?_
    refine r_getR rfl rfl fl_5_33 dX5_copyFrom_167 ?_
    refine r_iconst (v := 0) dX5_copyFrom_170 rfl ?_
    refine r_bipush (v := 6) dX5_copyFrom_171 rfl ?_
    refine r_copy rfl rfl (fun _ => rfl) rfl (fd_in 572 (by decide +kernel) (by decide +kernel)) (fd_in 574 (by decide +kernel) (by decide +kernel)) (fd_in 573 (by decide +kernel) (by decide +kernel)) (fd_in 77 (by decide +kernel) (by decide +kernel)) (by decide) (by decide) (by decide) (by decide) (by decide) (fun _ _ => rfl) (by decide) (by decide) dX5_copyFrom_173 ?_
    exact r_keep [0, 1] rfl (s9 _ (h.step (r := 8) (by decide) (by decide) rfl))
  have s7 : ∀ I1 : fdI, cpR 8 41 7 I I1 → Rn fd_SX α mX5_copyFrom 146 [(0, .ref (α 8)), (1, .ref (α 41))] [] I1 L (fd_vp (fun I' L' => L' = L ∧ cpR 8 41 11 I I')) := by
    intro I1 h
    refine r_aload_n dX5_copyFrom_146 rfl ?_
    refine r_getR rfl rfl fl_5_30 dX5_copyFrom_147 ?_
    refine r_iconst (v := 0) dX5_copyFrom_150 rfl ?_
    refine r_aload_n dX5_copyFrom_151 rfl ?_
    refine r_getR rfl rfl fl_5_30 dX5_copyFrom_152 ?_
    refine r_iconst (v := 0) dX5_copyFrom_155 rfl ?_
    refine r_bipush (v := 6) dX5_copyFrom_156 rfl ?_
    refine r_copy rfl rfl (fun _ => rfl) rfl (fd_in 572 (by decide +kernel) (by decide +kernel)) (fd_in 574 (by decide +kernel) (by decide +kernel)) (fd_in 573 (by decide +kernel) (by decide +kernel)) (fd_in 77 (by decide +kernel) (by decide +kernel)) (by decide) (by decide) (by decide) (by decide) (by decide) (fun _ _ => rfl) (by decide) (by decide) dX5_copyFrom_158 ?_
    exact r_keep [0, 1] rfl (s8 _ (h.step (r := 7) (by decide) (by decide) rfl))
  have s6 : ∀ I1 : fdI, cpR 8 41 6 I I1 → Rn fd_SX α mX5_copyFrom 131 [(0, .ref (α 8)), (1, .ref (α 41))] [] I1 L (fd_vp (fun I' L' => L' = L ∧ cpR 8 41 11 I I')) := by
    intro I1 h
    refine r_aload_n dX5_copyFrom_131 rfl ?_
    refine r_getR rfl rfl fl_5_27 dX5_copyFrom_132 ?_
    refine r_iconst (v := 0) dX5_copyFrom_135 rfl ?_
    refine r_aload_n dX5_copyFrom_136 rfl ?_
    refine r_getR rfl rfl fl_5_27 dX5_copyFrom_137 ?_
    refine r_iconst (v := 0) dX5_copyFrom_140 rfl ?_
    refine r_bipush (v := 6) dX5_copyFrom_141 rfl ?_
    refine r_copy rfl rfl (fun _ => rfl) rfl (fd_in 572 (by decide +kernel) (by decide +kernel)) (fd_in 574 (by decide +kernel) (by decide +kernel)) (fd_in 573 (by decide +kernel) (by decide +kernel)) (fd_in 77 (by decide +kernel) (by decide +kernel)) (by decide) (by decide) (by decide) (by decide) (by decide) (fun _ _ => rfl) (by decide) (by decide) dX5_copyFrom_143 ?_
    exact r_keep [0, 1] rfl (s7 _ (h.step (r := 6) (by decide) (by decide) rfl))
  have s5 : ∀ I1 : fdI, cpR 8 41 5 I I1 → Rn fd_SX α mX5_copyFrom 116 [(0, .ref (α 8)), (1, .ref (α 41))] [] I1 L (fd_vp (fun I' L' => L' = L ∧ cpR 8 41 11 I I')) := by
    intro I1 h
    refine r_aload_n dX5_copyFrom_116 rfl ?_
    refine r_getR rfl rfl fl_5_24 dX5_copyFrom_117 ?_
    refine r_iconst (v := 0) dX5_copyFrom_120 rfl ?_
    refine r_aload_n dX5_copyFrom_121 rfl ?_
    refine r_getR rfl rfl fl_5_24 dX5_copyFrom_122 ?_
    refine r_iconst (v := 0) dX5_copyFrom_125 rfl ?_
    refine r_bipush (v := 7) dX5_copyFrom_126 rfl ?_
    refine r_copy rfl rfl (fun _ => rfl) rfl (fd_in 572 (by decide +kernel) (by decide +kernel)) (fd_in 574 (by decide +kernel) (by decide +kernel)) (fd_in 573 (by decide +kernel) (by decide +kernel)) (fd_in 77 (by decide +kernel) (by decide +kernel)) (by decide) (by decide) (by decide) (by decide) (by decide) (fun _ _ => rfl) (by decide) (by decide) dX5_copyFrom_128 ?_
    exact r_keep [0, 1] rfl (s6 _ (h.step (r := 5) (by decide) (by decide) rfl))
  have s4 : ∀ I1 : fdI, cpR 8 41 4 I I1 → Rn fd_SX α mX5_copyFrom 101 [(0, .ref (α 8)), (1, .ref (α 41))] [] I1 L (fd_vp (fun I' L' => L' = L ∧ cpR 8 41 11 I I')) := by
    intro I1 h
    refine r_aload_n dX5_copyFrom_101 rfl ?_
    refine r_getR rfl rfl fl_5_21 dX5_copyFrom_102 ?_
    refine r_iconst (v := 0) dX5_copyFrom_105 rfl ?_
    refine r_aload_n dX5_copyFrom_106 rfl ?_
    refine r_getR rfl rfl fl_5_21 dX5_copyFrom_107 ?_
    refine r_iconst (v := 0) dX5_copyFrom_110 rfl ?_
    refine r_bipush (v := 7) dX5_copyFrom_111 rfl ?_
    refine r_copy rfl rfl (fun _ => rfl) rfl (fd_in 572 (by decide +kernel) (by decide +kernel)) (fd_in 574 (by decide +kernel) (by decide +kernel)) (fd_in 573 (by decide +kernel) (by decide +kernel)) (fd_in 77 (by decide +kernel) (by decide +kernel)) (by decide) (by decide) (by decide) (by decide) (by decide) (fun _ _ => rfl) (by decide) (by decide) dX5_copyFrom_113 ?_
    exact r_keep [0, 1] rfl (s5 _ (h.step (r := 4) (by decide) (by decide) rfl))
  have s3 : ∀ I1 : fdI, cpR 8 41 3 I I1 → Rn fd_SX α mX5_copyFrom 86 [(0, .ref (α 8)), (1, .ref (α 41))] [] I1 L (fd_vp (fun I' L' => L' = L ∧ cpR 8 41 11 I I')) := by
    intro I1 h
    refine r_aload_n dX5_copyFrom_86 rfl ?_
    refine r_getR rfl rfl fl_5_18 dX5_copyFrom_87 ?_
    refine r_iconst (v := 0) dX5_copyFrom_90 rfl ?_
    refine r_aload_n dX5_copyFrom_91 rfl ?_
    refine r_getR rfl rfl fl_5_18 dX5_copyFrom_92 ?_
    refine r_iconst (v := 0) dX5_copyFrom_95 rfl ?_
    refine r_bipush (v := 7) dX5_copyFrom_96 rfl ?_
    refine r_copy rfl rfl (fun _ => rfl) rfl (fd_in 572 (by decide +kernel) (by decide +kernel)) (fd_in 574 (by decide +kernel) (by decide +kernel)) (fd_in 573 (by decide +kernel) (by decide +kernel)) (fd_in 77 (by decide +kernel) (by decide +kernel)) (by decide) (by decide) (by decide) (by decide) (by decide) (fun _ _ => rfl) (by decide) (by decide) dX5_copyFrom_98 ?_
    exact r_keep [0, 1] rfl (s4 _ (h.step (r := 3) (by decide) (by decide) rfl))
  have s2 : ∀ I1 : fdI, cpR 8 41 2 I I1 → Rn fd_SX α mX5_copyFrom 71 [(0, .ref (α 8)), (1, .ref (α 41))] [] I1 L (fd_vp (fun I' L' => L' = L ∧ cpR 8 41 11 I I')) := by
    intro I1 h
    refine r_aload_n dX5_copyFrom_71 rfl ?_
    refine r_getR rfl rfl fl_5_15 dX5_copyFrom_72 ?_
    refine r_iconst (v := 0) dX5_copyFrom_75 rfl ?_
    refine r_aload_n dX5_copyFrom_76 rfl ?_
    refine r_getR rfl rfl fl_5_15 dX5_copyFrom_77 ?_
    refine r_iconst (v := 0) dX5_copyFrom_80 rfl ?_
    refine r_bipush (v := 7) dX5_copyFrom_81 rfl ?_
    refine r_copy rfl rfl (fun _ => rfl) rfl (fd_in 572 (by decide +kernel) (by decide +kernel)) (fd_in 574 (by decide +kernel) (by decide +kernel)) (fd_in 573 (by decide +kernel) (by decide +kernel)) (fd_in 77 (by decide +kernel) (by decide +kernel)) (by decide) (by decide) (by decide) (by decide) (by decide) (fun _ _ => rfl) (by decide) (by decide) dX5_copyFrom_83 ?_
    exact r_keep [0, 1] rfl (s3 _ (h.step (r := 2) (by decide) (by decide) rfl))
  have s1 : ∀ I1 : fdI, cpR 8 41 1 I I1 → Rn fd_SX α mX5_copyFrom 56 [(0, .ref (α 8)), (1, .ref (α 41))] [] I1 L (fd_vp (fun I' L' => L' = L ∧ cpR 8 41 11 I I')) := by
    intro I1 h
    refine r_aload_n dX5_copyFrom_56 rfl ?_
    refine r_getR rfl rfl fl_5_9 dX5_copyFrom_57 ?_
    refine r_iconst (v := 0) dX5_copyFrom_60 rfl ?_
    refine r_aload_n dX5_copyFrom_61 rfl ?_
    refine r_getR rfl rfl fl_5_9 dX5_copyFrom_62 ?_
    refine r_iconst (v := 0) dX5_copyFrom_65 rfl ?_
    refine r_bipush (v := 7) dX5_copyFrom_66 rfl ?_
    refine r_copy rfl rfl (fun _ => rfl) rfl (fd_in 572 (by decide +kernel) (by decide +kernel)) (fd_in 574 (by decide +kernel) (by decide +kernel)) (fd_in 573 (by decide +kernel) (by decide +kernel)) (fd_in 77 (by decide +kernel) (by decide +kernel)) (by decide) (by decide) (by decide) (by decide) (by decide) (fun _ _ => rfl) (by decide) (by decide) dX5_copyFrom_68 ?_
    exact r_keep [0, 1] rfl (s2 _ (h.step (r := 1) (by decide) (by decide) rfl))
  refine r_aload_n dX5_copyFrom_0 rfl ?_
  refine r_aload_n dX5_copyFrom_1 rfl ?_
  refine r_getI rfl rfl fl_5_46 dX5_copyFrom_2 ?_
  refine r_putI rfl rfl fl_5_46 fw_5_0 dX5_copyFrom_5 ?_
  refine r_aload_n dX5_copyFrom_8 rfl ?_
  refine r_aload_n dX5_copyFrom_9 rfl ?_
  refine r_getV rfl rfl fl_5_50 dX5_copyFrom_10 (Eq.trans (fd_up_ne (by decide)) rfl) ?_
  refine r_putI rfl rfl fl_5_50 fw_5_1 dX5_copyFrom_13 ?_
  refine r_aload_n dX5_copyFrom_16 rfl ?_
  refine r_aload_n dX5_copyFrom_17 rfl ?_
  refine r_getV rfl rfl fl_5_53 dX5_copyFrom_18 (Eq.trans (fd_up_ne (by decide)) (Eq.trans (fd_up_ne (by decide)) rfl)) ?_
  refine r_putI rfl rfl fl_5_53 fw_5_2 dX5_copyFrom_21 ?_
  refine r_aload_n dX5_copyFrom_24 rfl ?_
  refine r_aload_n dX5_copyFrom_25 rfl ?_
  refine r_getV rfl rfl fl_5_56 dX5_copyFrom_26 (Eq.trans (fd_up_ne (by decide)) (Eq.trans (fd_up_ne (by decide)) (Eq.trans (fd_up_ne (by decide)) rfl))) ?_
  refine r_putI rfl rfl fl_5_56 fw_5_3 dX5_copyFrom_29 ?_
  refine r_aload_n dX5_copyFrom_32 rfl ?_
  refine r_aload_n dX5_copyFrom_33 rfl ?_
  refine r_getV rfl rfl fl_5_59 dX5_copyFrom_34 (Eq.trans (fd_up_ne (by decide)) (Eq.trans (fd_up_ne (by decide)) (Eq.trans (fd_up_ne (by decide)) (Eq.trans (fd_up_ne (by decide)) rfl)))) ?_
  refine r_putI rfl rfl fl_5_59 fw_5_4 dX5_copyFrom_37 ?_
  refine r_aload_n dX5_copyFrom_40 rfl ?_
  refine r_aload_n dX5_copyFrom_41 rfl ?_
  refine r_getV rfl rfl fl_5_62 dX5_copyFrom_42 (Eq.trans (fd_up_ne (by decide)) (Eq.trans (fd_up_ne (by decide)) (Eq.trans (fd_up_ne (by decide)) (Eq.trans (fd_up_ne (by decide)) (Eq.trans (fd_up_ne (by decide)) rfl))))) ?_
  refine r_putI rfl rfl fl_5_62 fw_5_5 dX5_copyFrom_45 ?_
  refine r_aload_n dX5_copyFrom_48 rfl ?_
  refine r_aload_n dX5_copyFrom_49 rfl ?_
  refine r_getV rfl rfl fl_5_65 dX5_copyFrom_50 (Eq.trans (fd_up_ne (by decide)) (Eq.trans (fd_up_ne (by decide)) (Eq.trans (fd_up_ne (by decide)) (Eq.trans (fd_up_ne (by decide)) (Eq.trans (fd_up_ne (by decide)) (Eq.trans (fd_up_ne (by decide)) rfl)))))) ?_
  refine r_putI rfl rfl fl_5_65 fw_5_6 dX5_copyFrom_53 ?_
  refine r_keep [0, 1] rfl (s1 _ ⟨fun a ha => ?_, fun j hj => ?_, fun q q1 q2 => absurd q2 (by omega)⟩)
  · rw [fd_up_cell (by omega), fd_up_cell (by omega), fd_up_cell (by omega), fd_up_cell (by omega), fd_up_cell (by omega), fd_up_cell (by omega), fd_up_cell (by omega)]
  · rcases (show j = 0 ∨ j = 1 ∨ j = 2 ∨ j = 3 ∨ j = 4 ∨ j = 5 ∨ j = 6 by omega) with rfl | rfl | rfl | rfl | rfl | rfl | rfl <;> simp [fd_up]
theorem c_X5_copy_30_8 (α : Nat → Nat) (I : fdI) (L : fdL) : Con fd_SX α yX5_copyFrom mX5_copyFrom [.ref (α 30), .ref (α 8)] I L (fd_vp (fun I' L' => L' = L ∧ cpR 30 8 11 I I')) := by
  refine Con.of (by decide) rfl (Nat.le_of_ble_eq_true rfl) ?_
  have s10 : ∀ I1 : fdI, cpR 30 8 10 I I1 → Rn fd_SX α mX5_copyFrom 191 [(0, .ref (α 30)), (1, .ref (α 8))] [] I1 L (fd_vp (fun I' L' => L' = L ∧ cpR 30 8 11 I I')) := by
    intro I1 h
    refine r_aload_n dX5_copyFrom_191 rfl ?_
    refine r_getR rfl rfl fl_5_39 dX5_copyFrom_192 ?_
    refine r_iconst (v := 0) dX5_copyFrom_195 rfl ?_
    refine r_aload_n dX5_copyFrom_196 rfl ?_
    refine r_getR rfl rfl fl_5_39 dX5_copyFrom_197 ?_
    refine r_iconst (v := 0) dX5_copyFrom_200 rfl ?_
    refine r_iconst (v := 3) dX5_copyFrom_201 rfl ?_
    refine r_copy rfl rfl (fun _ => rfl) rfl (fd_in 572 (by decide +kernel) (by decide +kernel)) (fd_in 574 (by decide +kernel) (by decide +kernel)) (fd_in 573 (by decide +kernel) (by decide +kernel)) (fd_in 77 (by decide +kernel) (by decide +kernel)) (by decide) (by decide) (by decide) (by decide) (by decide) (fun _ _ => rfl) (by decide) (by decide) dX5_copyFrom_202 ?_
    refine r_vret rfl dX5_copyFrom_205 ?_
    exact ⟨rfl, rfl, h.step (r := 10) (by decide) (by decide) rfl⟩
  have s9 : ∀ I1 : fdI, cpR 30 8 9 I I1 → Rn fd_SX α mX5_copyFrom 176 [(0, .ref (α 30)), (1, .ref (α 8))] [] I1 L (fd_vp (fun I' L' => L' = L ∧ cpR 30 8 11 I I')) := by
    intro I1 h
    refine r_aload_n dX5_copyFrom_176 rfl ?_
    refine r_getR rfl rfl fl_5_36 dX5_copyFrom_177 ?_
    refine r_iconst (v := 0) dX5_copyFrom_180 rfl ?_
    refine r_aload_n dX5_copyFrom_181 rfl ?_
    refine r_getR rfl rfl fl_5_36 dX5_copyFrom_182 ?_
    refine r_iconst (v := 0) dX5_copyFrom_185 rfl ?_
    refine r_bipush (v := 6) dX5_copyFrom_186 rfl ?_
    refine r_copy rfl rfl (fun _ => rfl) rfl (fd_in 572 (by decide +kernel) (by decide +kernel)) (fd_in 574 (by decide +kernel) (by decide +kernel)) (fd_in 573 (by decide +kernel) (by decide +kernel)) (fd_in 77 (by decide +kernel) (by decide +kernel)) (by decide) (by decide) (by decide) (by decide) (by decide) (fun _ _ => rfl) (by decide) (by decide) dX5_copyFrom_188 ?_
    exact r_keep [0, 1] rfl (s10 _ (h.step (r := 9) (by decide) (by decide) rfl))
  have s8 : ∀ I1 : fdI, cpR 30 8 8 I I1 → Rn fd_SX α mX5_copyFrom 161 [(0, .ref (α 30)), (1, .ref (α 8))] [] I1 L (fd_vp (fun I' L' => L' = L ∧ cpR 30 8 11 I I')) := by
    intro I1 h
    refine r_aload_n dX5_copyFrom_161 rfl ?_
    refine r_getR rfl rfl fl_5_33 dX5_copyFrom_162 ?_
    refine r_iconst (v := 0) dX5_copyFrom_165 rfl ?_
    refine r_aload_n dX5_copyFrom_166 rfl ?_
    refine r_getR rfl rfl fl_5_33 dX5_copyFrom_167 ?_
    refine r_iconst (v := 0) dX5_copyFrom_170 rfl ?_
    refine r_bipush (v := 6) dX5_copyFrom_171 rfl ?_
    refine r_copy rfl rfl (fun _ => rfl) rfl (fd_in 572 (by decide +kernel) (by decide +kernel)) (fd_in 574 (by decide +kernel) (by decide +kernel)) (fd_in 573 (by decide +kernel) (by decide +kernel)) (fd_in 77 (by decide +kernel) (by decide +kernel)) (by decide) (by decide) (by decide) (by decide) (by decide) (fun _ _ => rfl) (by decide) (by decide) dX5_copyFrom_173 ?_
    exact r_keep [0, 1] rfl (s9 _ (h.step (r := 8) (by decide) (by decide) rfl))
  have s7 : ∀ I1 : fdI, cpR 30 8 7 I I1 → Rn fd_SX α mX5_copyFrom 146 [(0, .ref (α 30)), (1, .ref (α 8))] [] I1 L (fd_vp (fun I' L' => L' = L ∧ cpR 30 8 11 I I')) := by
    intro I1 h
    refine r_aload_n dX5_copyFrom_146 rfl ?_
    refine r_getR rfl rfl fl_5_30 dX5_copyFrom_147 ?_
    refine r_iconst (v := 0) dX5_copyFrom_150 rfl ?_
    refine r_aload_n dX5_copyFrom_151 rfl ?_
    refine r_getR rfl rfl fl_5_30 dX5_copyFrom_152 ?_
    refine r_iconst (v := 0) dX5_copyFrom_155 rfl ?_
    refine r_bipush (v := 6) dX5_copyFrom_156 rfl ?_
    refine r_copy rfl rfl (fun _ => rfl) rfl (fd_in 572 (by decide +kernel) (by decide +kernel)) (fd_in 574 (by decide +kernel) (by decide +kernel)) (fd_in 573 (by decide +kernel) (by decide +kernel)) (fd_in 77 (by decide +kernel) (by decide +kernel)) (by decide) (by decide) (by decide) (by decide) (by decide) (fun _ _ => rfl) (by decide) (by decide) dX5_copyFrom_158 ?_
    exact r_keep [0, 1] rfl (s8 _ (h.step (r := 7) (by decide) (by decide) rfl))
  have s6 : ∀ I1 : fdI, cpR 30 8 6 I I1 → Rn fd_SX α mX5_copyFrom 131 [(0, .ref (α 30)), (1, .ref (α 8))] [] I1 L (fd_vp (fun I' L' => L' = L ∧ cpR 30 8 11 I I')) := by
    intro I1 h
    refine r_aload_n dX5_copyFrom_131 rfl ?_
    refine r_getR rfl rfl fl_5_27 dX5_copyFrom_132 ?_
    refine r_iconst (v := 0) dX5_copyFrom_135 rfl ?_
    refine r_aload_n dX5_copyFrom_136 rfl ?_
    refine r_getR rfl rfl fl_5_27 dX5_copyFrom_137 ?_
    refine r_iconst (v := 0) dX5_copyFrom_140 rfl ?_
    refine r_bipush (v := 6) dX5_copyFrom_141 rfl ?_
    refine r_copy rfl rfl (fun _ => rfl) rfl (fd_in 572 (by decide +kernel) (by decide +kernel)) (fd_in 574 (by decide +kernel) (by decide +kernel)) (fd_in 573 (by decide +kernel) (by decide +kernel)) (fd_in 77 (by decide +kernel) (by decide +kernel)) (by decide) (by decide) (by decide) (by decide) (by decide) (fun _ _ => rfl) (by decide) (by decide) dX5_copyFrom_143 ?_
    exact r_keep [0, 1] rfl (s7 _ (h.step (r := 6) (by decide) (by decide) rfl))
  have s5 : ∀ I1 : fdI, cpR 30 8 5 I I1 → Rn fd_SX α mX5_copyFrom 116 [(0, .ref (α 30)), (1, .ref (α 8))] [] I1 L (fd_vp (fun I' L' => L' = L ∧ cpR 30 8 11 I I')) := by
    intro I1 h
    refine r_aload_n dX5_copyFrom_116 rfl ?_
    refine r_getR rfl rfl fl_5_24 dX5_copyFrom_117 ?_
    refine r_iconst (v := 0) dX5_copyFrom_120 rfl ?_
    refine r_aload_n dX5_copyFrom_121 rfl ?_
    refine r_getR rfl rfl fl_5_24 dX5_copyFrom_122 ?_
    refine r_iconst (v := 0) dX5_copyFrom_125 rfl ?_
    refine r_bipush (v := 7) dX5_copyFrom_126 rfl ?_
    refine r_copy rfl rfl (fun _ => rfl) rfl (fd_in 572 (by decide +kernel) (by decide +kernel)) (fd_in 574 (by decide +kernel) (by decide +kernel)) (fd_in 573 (by decide +kernel) (by decide +kernel)) (fd_in 77 (by decide +kernel) (by decide +kernel)) (by decide) (by decide) (by decide) (by decide) (by decide) (fun _ _ => rfl) (by decide) (by decide) dX5_copyFrom_128 ?_
    exact r_keep [0, 1] rfl (s6 _ (h.step (r := 5) (by decide) (by decide) rfl))
  have s4 : ∀ I1 : fdI, cpR 30 8 4 I I1 → Rn fd_SX α mX5_copyFrom 101 [(0, .ref (α 30)), (1, .ref (α 8))] [] I1 L (fd_vp (fun I' L' => L' = L ∧ cpR 30 8 11 I I')) := by
    intro I1 h
    refine r_aload_n dX5_copyFrom_101 rfl ?_
    refine r_getR rfl rfl fl_5_21 dX5_copyFrom_102 ?_
    refine r_iconst (v := 0) dX5_copyFrom_105 rfl ?_
    refine r_aload_n dX5_copyFrom_106 rfl ?_
    refine r_getR rfl rfl fl_5_21 dX5_copyFrom_107 ?_
    refine r_iconst (v := 0) dX5_copyFrom_110 rfl ?_
    refine r_bipush (v := 7) dX5_copyFrom_111 rfl ?_
    refine r_copy rfl rfl (fun _ => rfl) rfl (fd_in 572 (by decide +kernel) (by decide +kernel)) (fd_in 574 (by decide +kernel) (by decide +kernel)) (fd_in 573 (by decide +kernel) (by decide +kernel)) (fd_in 77 (by decide +kernel) (by decide +kernel)) (by decide) (by decide) (by decide) (by decide) (by decide) (fun _ _ => rfl) (by decide) (by decide) dX5_copyFrom_113 ?_
    exact r_keep [0, 1] rfl (s5 _ (h.step (r := 4) (by decide) (by decide) rfl))
  have s3 : ∀ I1 : fdI, cpR 30 8 3 I I1 → Rn fd_SX α mX5_copyFrom 86 [(0, .ref (α 30)), (1, .ref (α 8))] [] I1 L (fd_vp (fun I' L' => L' = L ∧ cpR 30 8 11 I I')) := by
    intro I1 h
    refine r_aload_n dX5_copyFrom_86 rfl ?_
    refine r_getR rfl rfl fl_5_18 dX5_copyFrom_87 ?_
    refine r_iconst (v := 0) dX5_copyFrom_90 rfl ?_
    refine r_aload_n dX5_copyFrom_91 rfl ?_
    refine r_getR rfl rfl fl_5_18 dX5_copyFrom_92 ?_
    refine r_iconst (v := 0) dX5_copyFrom_95 rfl ?_
    refine r_bipush (v := 7) dX5_copyFrom_96 rfl ?_
    refine r_copy rfl rfl (fun _ => rfl) rfl (fd_in 572 (by decide +kernel) (by decide +kernel)) (fd_in 574 (by decide +kernel) (by decide +kernel)) (fd_in 573 (by decide +kernel) (by decide +kernel)) (fd_in 77 (by decide +kernel) (by decide +kernel)) (by decide) (by decide) (by decide) (by decide) (by decide) (fun _ _ => rfl) (by decide) (by decide) dX5_copyFrom_98 ?_
    exact r_keep [0, 1] rfl (s4 _ (h.step (r := 3) (by decide) (by decide) rfl))
  have s2 : ∀ I1 : fdI, cpR 30 8 2 I I1 → Rn fd_SX α mX5_copyFrom 71 [(0, .ref (α 30)), (1, .ref (α 8))] [] I1 L (fd_vp (fun I' L' => L' = L ∧ cpR 30 8 11 I I')) := by
    intro I1 h
    refine r_aload_n dX5_copyFrom_71 rfl ?_
    refine r_getR rfl rfl fl_5_15 dX5_copyFrom_72 ?_
    refine r_iconst (v := 0) dX5_copyFrom_75 rfl ?_
    refine r_aload_n dX5_copyFrom_76 rfl ?_
    refine r_getR rfl rfl fl_5_15 dX5_copyFrom_77 ?_
    refine r_iconst (v := 0) dX5_copyFrom_80 rfl ?_
    refine r_bipush (v := 7) dX5_copyFrom_81 rfl ?_
    refine r_copy rfl rfl (fun _ => rfl) rfl (fd_in 572 (by decide +kernel) (by decide +kernel)) (fd_in 574 (by decide +kernel) (by decide +kernel)) (fd_in 573 (by decide +kernel) (by decide +kernel)) (fd_in 77 (by decide +kernel) (by decide +kernel)) (by decide) (by decide) (by decide) (by decide) (by decide) (fun _ _ => rfl) (by decide) (by decide) dX5_copyFrom_83 ?_
    exact r_keep [0, 1] rfl (s3 _ (h.step (r := 2) (by decide) (by decide) rfl))
  have s1 : ∀ I1 : fdI, cpR 30 8 1 I I1 → Rn fd_SX α mX5_copyFrom 56 [(0, .ref (α 30)), (1, .ref (α 8))] [] I1 L (fd_vp (fun I' L' => L' = L ∧ cpR 30 8 11 I I')) := by
    intro I1 h
    refine r_aload_n dX5_copyFrom_56 rfl ?_
    refine r_getR rfl rfl fl_5_9 dX5_copyFrom_57 ?_
    refine r_iconst (v := 0) dX5_copyFrom_60 rfl ?_
    refine r_aload_n dX5_copyFrom_61 rfl ?_
    refine r_getR rfl rfl fl_5_9 dX5_copyFrom_62 ?_
    refine r_iconst (v := 0) dX5_copyFrom_65 rfl ?_
    refine r_bipush (v := 7) dX5_copyFrom_66 rfl ?_
    refine r_copy rfl rfl (fun _ => rfl) rfl (fd_in 572 (by decide +kernel) (by decide +kernel)) (fd_in 574 (by decide +kernel) (by decide +kernel)) (fd_in 573 (by decide +kernel) (by decide +kernel)) (fd_in 77 (by decide +kernel) (by decide +kernel)) (by decide) (by decide) (by decide) (by decide) (by decide) (fun _ _ => rfl) (by decide) (by decide) dX5_copyFrom_68 ?_
    exact r_keep [0, 1] rfl (s2 _ (h.step (r := 1) (by decide) (by decide) rfl))
  refine r_aload_n dX5_copyFrom_0 rfl ?_
  refine r_aload_n dX5_copyFrom_1 rfl ?_
  refine r_getI rfl rfl fl_5_46 dX5_copyFrom_2 ?_
  refine r_putI rfl rfl fl_5_46 fw_5_0 dX5_copyFrom_5 ?_
  refine r_aload_n dX5_copyFrom_8 rfl ?_
  refine r_aload_n dX5_copyFrom_9 rfl ?_
  refine r_getV rfl rfl fl_5_50 dX5_copyFrom_10 (Eq.trans (fd_up_ne (by decide)) rfl) ?_
  refine r_putI rfl rfl fl_5_50 fw_5_1 dX5_copyFrom_13 ?_
  refine r_aload_n dX5_copyFrom_16 rfl ?_
  refine r_aload_n dX5_copyFrom_17 rfl ?_
  refine r_getV rfl rfl fl_5_53 dX5_copyFrom_18 (Eq.trans (fd_up_ne (by decide)) (Eq.trans (fd_up_ne (by decide)) rfl)) ?_
  refine r_putI rfl rfl fl_5_53 fw_5_2 dX5_copyFrom_21 ?_
  refine r_aload_n dX5_copyFrom_24 rfl ?_
  refine r_aload_n dX5_copyFrom_25 rfl ?_
  refine r_getV rfl rfl fl_5_56 dX5_copyFrom_26 (Eq.trans (fd_up_ne (by decide)) (Eq.trans (fd_up_ne (by decide)) (Eq.trans (fd_up_ne (by decide)) rfl))) ?_
  refine r_putI rfl rfl fl_5_56 fw_5_3 dX5_copyFrom_29 ?_
  refine r_aload_n dX5_copyFrom_32 rfl ?_
  refine r_aload_n dX5_copyFrom_33 rfl ?_
  refine r_getV rfl rfl fl_5_59 dX5_copyFrom_34 (Eq.trans (fd_up_ne (by decide)) (Eq.trans (fd_up_ne (by decide)) (Eq.trans (fd_up_ne (by decide)) (Eq.trans (fd_up_ne (by decide)) rfl)))) ?_
  refine r_putI rfl rfl fl_5_59 fw_5_4 dX5_copyFrom_37 ?_
  refine r_aload_n dX5_copyFrom_40 rfl ?_
  refine r_aload_n dX5_copyFrom_41 rfl ?_
  refine r_getV rfl rfl fl_5_62 dX5_copyFrom_42 (Eq.trans (fd_up_ne (by decide)) (Eq.trans (fd_up_ne (by decide)) (Eq.trans (fd_up_ne (by decide)) (Eq.trans (fd_up_ne (by decide)) (Eq.trans (fd_up_ne (by decide)) rfl))))) ?_
  refine r_putI rfl rfl fl_5_62 fw_5_5 dX5_copyFrom_45 ?_
  refine r_aload_n dX5_copyFrom_48 rfl ?_
  refine r_aload_n dX5_copyFrom_49 rfl ?_
  refine r_getV rfl rfl fl_5_65 dX5_copyFrom_50 (Eq.trans (fd_up_ne (by decide)) (Eq.trans (fd_up_ne (by decide)) (Eq.trans (fd_up_ne (by decide)) (Eq.trans (fd_up_ne (by decide)) (Eq.trans (fd_up_ne (by decide)) (Eq.trans (fd_up_ne (by decide)) rfl)))))) ?_
  refine r_putI rfl rfl fl_5_65 fw_5_6 dX5_copyFrom_53 ?_
  refine r_keep [0, 1] rfl (s1 _ ⟨fun a ha => ?_, fun j hj => ?_, fun q q1 q2 => absurd q2 (by omega)⟩)
  · rw [fd_up_cell (by omega), fd_up_cell (by omega), fd_up_cell (by omega), fd_up_cell (by omega), fd_up_cell (by omega), fd_up_cell (by omega), fd_up_cell (by omega)]
  · rcases (show j = 0 ∨ j = 1 ∨ j = 2 ∨ j = 3 ∨ j = 4 ∨ j = 5 ∨ j = 6 by omega) with rfl | rfl | rfl | rfl | rfl | rfl | rfl <;> simp [fd_up]
theorem c_X5_copy_41_8 (α : Nat → Nat) (I : fdI) (L : fdL) : Con fd_SX α yX5_copyFrom mX5_copyFrom [.ref (α 41), .ref (α 8)] I L (fd_vp (fun I' L' => L' = L ∧ cpR 41 8 11 I I')) := by
  refine Con.of (by decide) rfl (Nat.le_of_ble_eq_true rfl) ?_
  have s10 : ∀ I1 : fdI, cpR 41 8 10 I I1 → Rn fd_SX α mX5_copyFrom 191 [(0, .ref (α 41)), (1, .ref (α 8))] [] I1 L (fd_vp (fun I' L' => L' = L ∧ cpR 41 8 11 I I')) := by
    intro I1 h
    refine r_aload_n dX5_copyFrom_191 rfl ?_
    refine r_getR rfl rfl fl_5_39 dX5_copyFrom_192 ?_
    refine r_iconst (v := 0) dX5_copyFrom_195 rfl ?_
    refine r_aload_n dX5_copyFrom_196 rfl ?_
    refine r_getR rfl rfl fl_5_39 dX5_copyFrom_197 ?_
    refine r_iconst (v := 0) dX5_copyFrom_200 rfl ?_
    refine r_iconst (v := 3) dX5_copyFrom_201 rfl ?_
    refine r_copy rfl rfl (fun _ => rfl) rfl (fd_in 572 (by decide +kernel) (by decide +kernel)) (fd_in 574 (by decide +kernel) (by decide +kernel)) (fd_in 573 (by decide +kernel) (by decide +kernel)) (fd_in 77 (by decide +kernel) (by decide +kernel)) (by decide) (by decide) (by decide) (by decide) (by decide) (fun _ _ => rfl) (by decide) (by decide) dX5_copyFrom_202 ?_
    refine r_vret rfl dX5_copyFrom_205 ?_
    exact ⟨rfl, rfl, h.step (r := 10) (by decide) (by decide) rfl⟩
  have s9 : ∀ I1 : fdI, cpR 41 8 9 I I1 → Rn fd_SX α mX5_copyFrom 176 [(0, .ref (α 41)), (1, .ref (α 8))] [] I1 L (fd_vp (fun I' L' => L' = L ∧ cpR 41 8 11 I I')) := by
    intro I1 h
    refine r_aload_n dX5_copyFrom_176 rfl ?_
    refine r_getR rfl rfl fl_5_36 dX5_copyFrom_177 ?_
    refine r_iconst (v := 0) dX5_copyFrom_180 rfl ?_
    refine r_aload_n dX5_copyFrom_181 rfl ?_
    refine r_getR rfl rfl fl_5_36 dX5_copyFrom_182 ?_
    refine r_iconst (v := 0) dX5_copyFrom_185 rfl ?_
    refine r_bipush (v := 6) dX5_copyFrom_186 rfl ?_
    refine r_copy rfl rfl (fun _ => rfl) rfl (fd_in 572 (by decide +kernel) (by decide +kernel)) (fd_in 574 (by decide +kernel) (by decide +kernel)) (fd_in 573 (by decide +kernel) (by decide +kernel)) (fd_in 77 (by decide +kernel) (by decide +kernel)) (by decide) (by decide) (by decide) (by decide) (by decide) (fun _ _ => rfl) (by decide) (by decide) dX5_copyFrom_188 ?_
    exact r_keep [0, 1] rfl (s10 _ (h.step (r := 9) (by decide) (by decide) rfl))
  have s8 : ∀ I1 : fdI, cpR 41 8 8 I I1 → Rn fd_SX α mX5_copyFrom 161 [(0, .ref (α 41)), (1, .ref (α 8))] [] I1 L (fd_vp (fun I' L' => L' = L ∧ cpR 41 8 11 I I')) := by
    intro I1 h
    refine r_aload_n dX5_copyFrom_161 rfl ?_
    refine r_getR rfl rfl fl_5_33 dX5_copyFrom_162 ?_
    refine r_iconst (v := 0) dX5_copyFrom_165 rfl ?_
    refine r_aload_n dX5_copyFrom_166 rfl ?_
    refine r_getR rfl rfl fl_5_33 dX5_copyFrom_167 ?_
    refine r_iconst (v := 0) dX5_copyFrom_170 rfl ?_
    refine r_bipush (v := 6) dX5_copyFrom_171 rfl ?_
    refine r_copy rfl rfl (fun _ => rfl) rfl (fd_in 572 (by decide +kernel) (by decide +kernel)) (fd_in 574 (by decide +kernel) (by decide +kernel)) (fd_in 573 (by decide +kernel) (by decide +kernel)) (fd_in 77 (by decide +kernel) (by decide +kernel)) (by decide) (by decide) (by decide) (by decide) (by decide) (fun _ _ => rfl) (by decide) (by decide) dX5_copyFrom_173 ?_
    exact r_keep [0, 1] rfl (s9 _ (h.step (r := 8) (by decide) (by decide) rfl))
  have s7 : ∀ I1 : fdI, cpR 41 8 7 I I1 → Rn fd_SX α mX5_copyFrom 146 [(0, .ref (α 41)), (1, .ref (α 8))] [] I1 L (fd_vp (fun I' L' => L' = L ∧ cpR 41 8 11 I I')) := by
    intro I1 h
    refine r_aload_n dX5_copyFrom_146 rfl ?_
    refine r_getR rfl rfl fl_5_30 dX5_copyFrom_147 ?_
    refine r_iconst (v := 0) dX5_copyFrom_150 rfl ?_
    refine r_aload_n dX5_copyFrom_151 rfl ?_
    refine r_getR rfl rfl fl_5_30 dX5_copyFrom_152 ?_
    refine r_iconst (v := 0) dX5_copyFrom_155 rfl ?_
    refine r_bipush (v := 6) dX5_copyFrom_156 rfl ?_
    refine r_copy rfl rfl (fun _ => rfl) rfl (fd_in 572 (by decide +kernel) (by decide +kernel)) (fd_in 574 (by decide +kernel) (by decide +kernel)) (fd_in 573 (by decide +kernel) (by decide +kernel)) (fd_in 77 (by decide +kernel) (by decide +kernel)) (by decide) (by decide) (by decide) (by decide) (by decide) (fun _ _ => rfl) (by decide) (by decide) dX5_copyFrom_158 ?_
    exact r_keep [0, 1] rfl (s8 _ (h.step (r := 7) (by decide) (by decide) rfl))
  have s6 : ∀ I1 : fdI, cpR 41 8 6 I I1 → Rn fd_SX α mX5_copyFrom 131 [(0, .ref (α 41)), (1, .ref (α 8))] [] I1 L (fd_vp (fun I' L' => L' = L ∧ cpR 41 8 11 I I')) := by
    intro I1 h
    refine r_aload_n dX5_copyFrom_131 rfl ?_
    refine r_getR rfl rfl fl_5_27 dX5_copyFrom_132 ?_
    refine r_iconst (v := 0) dX5_copyFrom_135 rfl ?_
    refine r_aload_n dX5_copyFrom_136 rfl ?_
    refine r_getR rfl rfl fl_5_27 dX5_copyFrom_137 ?_
    refine r_iconst (v := 0) dX5_copyFrom_140 rfl ?_
    refine r_bipush (v := 6) dX5_copyFrom_141 rfl ?_
    refine r_copy rfl rfl (fun _ => rfl) rfl (fd_in 572 (by decide +kernel) (by decide +kernel)) (fd_in 574 (by decide +kernel) (by decide +kernel)) (fd_in 573 (by decide +kernel) (by decide +kernel)) (fd_in 77 (by decide +kernel) (by decide +kernel)) (by decide) (by decide) (by decide) (by decide) (by decide) (fun _ _ => rfl) (by decide) (by decide) dX5_copyFrom_143 ?_
    exact r_keep [0, 1] rfl (s7 _ (h.step (r := 6) (by decide) (by decide) rfl))
  have s5 : ∀ I1 : fdI, cpR 41 8 5 I I1 → Rn fd_SX α mX5_copyFrom 116 [(0, .ref (α 41)), (1, .ref (α 8))] [] I1 L (fd_vp (fun I' L' => L' = L ∧ cpR 41 8 11 I I')) := by
    intro I1 h
    refine r_aload_n dX5_copyFrom_116 rfl ?_
    refine r_getR rfl rfl fl_5_24 dX5_copyFrom_117 ?_
    refine r_iconst (v := 0) dX5_copyFrom_120 rfl ?_
    refine r_aload_n dX5_copyFrom_121 rfl ?_
    refine r_getR rfl rfl fl_5_24 dX5_copyFrom_122 ?_
    refine r_iconst (v := 0) dX5_copyFrom_125 rfl ?_
    refine r_bipush (v := 7) dX5_copyFrom_126 rfl ?_
    refine r_copy rfl rfl (fun _ => rfl) rfl (fd_in 572 (by decide +kernel) (by decide +kernel)) (fd_in 574 (by decide +kernel) (by decide +kernel)) (fd_in 573 (by decide +kernel) (by decide +kernel)) (fd_in 77 (by decide +kernel) (by decide +kernel)) (by decide) (by decide) (by decide) (by decide) (by decide) (fun _ _ => rfl) (by decide) (by decide) dX5_copyFrom_128 ?_
    exact r_keep [0, 1] rfl (s6 _ (h.step (r := 5) (by decide) (by decide) rfl))
  have s4 : ∀ I1 : fdI, cpR 41 8 4 I I1 → Rn fd_SX α mX5_copyFrom 101 [(0, .ref (α 41)), (1, .ref (α 8))] [] I1 L (fd_vp (fun I' L' => L' = L ∧ cpR 41 8 11 I I')) := by
    intro I1 h
    refine r_aload_n dX5_copyFrom_101 rfl ?_
    refine r_getR rfl rfl fl_5_21 dX5_copyFrom_102 ?_
    refine r_iconst (v := 0) dX5_copyFrom_105 rfl ?_
    refine r_aload_n dX5_copyFrom_106 rfl ?_
    refine r_getR rfl rfl fl_5_21 dX5_copyFrom_107 ?_
    refine r_iconst (v := 0) dX5_copyFrom_110 rfl ?_
    refine r_bipush (v := 7) dX5_copyFrom_111 rfl ?_
    refine r_copy rfl rfl (fun _ => rfl) rfl (fd_in 572 (by decide +kernel) (by decide +kernel)) (fd_in 574 (by decide +kernel) (by decide +kernel)) (fd_in 573 (by decide +kernel) (by decide +kernel)) (fd_in 77 (by decide +kernel) (by decide +kernel)) (by decide) (by decide) (by decide) (by decide) (by decide) (fun _ _ => rfl) (by decide) (by decide) dX5_copyFrom_113 ?_
    exact r_keep [0, 1] rfl (s5 _ (h.step (r := 4) (by decide) (by decide) rfl))
  have s3 : ∀ I1 : fdI, cpR 41 8 3 I I1 → Rn fd_SX α mX5_copyFrom 86 [(0, .ref (α 41)), (1, .ref (α 8))] [] I1 L (fd_vp (fun I' L' => L' = L ∧ cpR 41 8 11 I I')) := by
    intro I1 h
    refine r_aload_n dX5_copyFrom_86 rfl ?_
    refine r_getR rfl rfl fl_5_18 dX5_copyFrom_87 ?_
    refine r_iconst (v := 0) dX5_copyFrom_90 rfl ?_
    refine r_aload_n dX5_copyFrom_91 rfl ?_
    refine r_getR rfl rfl fl_5_18 dX5_copyFrom_92 ?_
    refine r_iconst (v := 0) dX5_copyFrom_95 rfl ?_
    refine r_bipush (v := 7) dX5_copyFrom_96 rfl ?_
    refine r_copy rfl rfl (fun _ => rfl) rfl (fd_in 572 (by decide +kernel) (by decide +kernel)) (fd_in 574 (by decide +kernel) (by decide +kernel)) (fd_in 573 (by decide +kernel) (by decide +kernel)) (fd_in 77 (by decide +kernel) (by decide +kernel)) (by decide) (by decide) (by decide) (by decide) (by decide) (fun _ _ => rfl) (by decide) (by decide) dX5_copyFrom_98 ?_
    exact r_keep [0, 1] rfl (s4 _ (h.step (r := 3) (by decide) (by decide) rfl))
  have s2 : ∀ I1 : fdI, cpR 41 8 2 I I1 → Rn fd_SX α mX5_copyFrom 71 [(0, .ref (α 41)), (1, .ref (α 8))] [] I1 L (fd_vp (fun I' L' => L' = L ∧ cpR 41 8 11 I I')) := by
    intro I1 h
    refine r_aload_n dX5_copyFrom_71 rfl ?_
    refine r_getR rfl rfl fl_5_15 dX5_copyFrom_72 ?_
    refine r_iconst (v := 0) dX5_copyFrom_75 rfl ?_
    refine r_aload_n dX5_copyFrom_76 rfl ?_
    refine r_getR rfl rfl fl_5_15 dX5_copyFrom_77 ?_
    refine r_iconst (v := 0) dX5_copyFrom_80 rfl ?_
    refine r_bipush (v := 7) dX5_copyFrom_81 rfl ?_
    refine r_copy rfl rfl (fun _ => rfl) rfl (fd_in 572 (by decide +kernel) (by decide +kernel)) (fd_in 574 (by decide +kernel) (by decide +kernel)) (fd_in 573 (by decide +kernel) (by decide +kernel)) (fd_in 77 (by decide +kernel) (by decide +kernel)) (by decide) (by decide) (by decide) (by decide) (by decide) (fun _ _ => rfl) (by decide) (by decide) dX5_copyFrom_83 ?_
    exact r_keep [0, 1] rfl (s3 _ (h.step (r := 2) (by decide) (by decide) rfl))
  have s1 : ∀ I1 : fdI, cpR 41 8 1 I I1 → Rn fd_SX α mX5_copyFrom 56 [(0, .ref (α 41)), (1, .ref (α 8))] [] I1 L (fd_vp (fun I' L' => L' = L ∧ cpR 41 8 11 I I')) := by
    intro I1 h
    refine r_aload_n dX5_copyFrom_56 rfl ?_
    refine r_getR rfl rfl fl_5_9 dX5_copyFrom_57 ?_
    refine r_iconst (v := 0) dX5_copyFrom_60 rfl ?_
    refine r_aload_n dX5_copyFrom_61 rfl ?_
    refine r_getR rfl rfl fl_5_9 dX5_copyFrom_62 ?_
    refine r_iconst (v := 0) dX5_copyFrom_65 rfl ?_
    refine r_bipush (v := 7) dX5_copyFrom_66 rfl ?_
    refine r_copy rfl rfl (fun _ => rfl) rfl (fd_in 572 (by decide +kernel) (by decide +kernel)) (fd_in 574 (by decide +kernel) (by decide +kernel)) (fd_in 573 (by decide +kernel) (by decide +kernel)) (fd_in 77 (by decide +kernel) (by decide +kernel)) (by decide) (by decide) (by decide) (by decide) (by decide) (fun _ _ => rfl) (by decide) (by decide) dX5_copyFrom_68 ?_
    exact r_keep [0, 1] rfl (s2 _ (h.step (r := 1) (by decide) (by decide) rfl))
  refine r_aload_n dX5_copyFrom_0 rfl ?_
  refine r_aload_n dX5_copyFrom_1 rfl ?_
  refine r_getI rfl rfl fl_5_46 dX5_copyFrom_2 ?_
  refine r_putI rfl rfl fl_5_46 fw_5_0 dX5_copyFrom_5 ?_
  refine r_aload_n dX5_copyFrom_8 rfl ?_
  refine r_aload_n dX5_copyFrom_9 rfl ?_
  refine r_getV rfl rfl fl_5_50 dX5_copyFrom_10 (Eq.trans (fd_up_ne (by decide)) rfl) ?_
  refine r_putI rfl rfl fl_5_50 fw_5_1 dX5_copyFrom_13 ?_
  refine r_aload_n dX5_copyFrom_16 rfl ?_
  refine r_aload_n dX5_copyFrom_17 rfl ?_
  refine r_getV rfl rfl fl_5_53 dX5_copyFrom_18 (Eq.trans (fd_up_ne (by decide)) (Eq.trans (fd_up_ne (by decide)) rfl)) ?_
  refine r_putI rfl rfl fl_5_53 fw_5_2 dX5_copyFrom_21 ?_
  refine r_aload_n dX5_copyFrom_24 rfl ?_
  refine r_aload_n dX5_copyFrom_25 rfl ?_
  refine r_getV rfl rfl fl_5_56 dX5_copyFrom_26 (Eq.trans (fd_up_ne (by decide)) (Eq.trans (fd_up_ne (by decide)) (Eq.trans (fd_up_ne (by decide)) rfl))) ?_
  refine r_putI rfl rfl fl_5_56 fw_5_3 dX5_copyFrom_29 ?_
  refine r_aload_n dX5_copyFrom_32 rfl ?_
  refine r_aload_n dX5_copyFrom_33 rfl ?_
  refine r_getV rfl rfl fl_5_59 dX5_copyFrom_34 (Eq.trans (fd_up_ne (by decide)) (Eq.trans (fd_up_ne (by decide)) (Eq.trans (fd_up_ne (by decide)) (Eq.trans (fd_up_ne (by decide)) rfl)))) ?_
  refine r_putI rfl rfl fl_5_59 fw_5_4 dX5_copyFrom_37 ?_
  refine r_aload_n dX5_copyFrom_40 rfl ?_
  refine r_aload_n dX5_copyFrom_41 rfl ?_
  refine r_getV rfl rfl fl_5_62 dX5_copyFrom_42 (Eq.trans (fd_up_ne (by decide)) (Eq.trans (fd_up_ne (by decide)) (Eq.trans (fd_up_ne (by decide)) (Eq.trans (fd_up_ne (by decide)) (Eq.trans (fd_up_ne (by decide)) rfl))))) ?_
  refine r_putI rfl rfl fl_5_62 fw_5_5 dX5_copyFrom_45 ?_
  refine r_aload_n dX5_copyFrom_48 rfl ?_
  refine r_aload_n dX5_copyFrom_49 rfl ?_
  refine r_getV rfl rfl fl_5_65 dX5_copyFrom_50 (Eq.trans (fd_up_ne (by decide)) (Eq.trans (fd_up_ne (by decide)) (Eq.trans (fd_up_ne (by decide)) (Eq.trans (fd_up_ne (by decide)) (Eq.trans (fd_up_ne (by decide)) (Eq.trans (fd_up_ne (by decide)) rfl)))))) ?_
  refine r_putI rfl rfl fl_5_65 fw_5_6 dX5_copyFrom_53 ?_
  refine r_keep [0, 1] rfl (s1 _ ⟨fun a ha => ?_, fun j hj => ?_, fun q q1 q2 => absurd q2 (by omega)⟩)
  · rw [fd_up_cell (by omega), fd_up_cell (by omega), fd_up_cell (by omega), fd_up_cell (by omega), fd_up_cell (by omega), fd_up_cell (by omega), fd_up_cell (by omega)]
  · rcases (show j = 0 ∨ j = 1 ∨ j = 2 ∨ j = 3 ∨ j = 4 ∨ j = 5 ∨ j = 6 by omega) with rfl | rfl | rfl | rfl | rfl | rfl | rfl <;> simp [fd_up]
