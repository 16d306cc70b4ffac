/-! ===== constructors: the contracts ===== -/
def k_al (l : List Nat) (ρ : Nat → Nat) : Nat → Nat := fun k => if k < 1000 then l.getD k 0 else ρ k
theorem k_alP {l : List Nat} {ρ : Nat → Nat} (i : Nat) : k_al l ρ (1000 + i) = ρ (1000 + i) := by unfold k_al; rw [if_neg (by omega)]
theorem k_arr_int : Cond.arrayClass .int ∈ fd_tb := fd_in 168 (by decide +kernel) (by decide +kernel)
theorem k_arr_boolean : Cond.arrayClass .boolean ∈ fd_tb := fd_in 204 (by decide +kernel) (by decide +kernel)
theorem k_arr_byte : Cond.arrayClass .byte ∈ fd_tb := fd_in 205 (by decide +kernel) (by decide +kernel)
theorem fF_2_1 : fd_fF RX2 2 1 (.array .int) := fun r h => by cases h; exact ⟨rfl, rfl, by decide +kernel⟩
theorem fF_2_2 : fd_fF RX2 2 2 (.array .int) := fun r h => by cases h; exact ⟨rfl, rfl, by decide +kernel⟩
theorem fF_2_3 : fd_fF RX2 2 3 (.array .boolean) := fun r h => by cases h; exact ⟨rfl, rfl, by decide +kernel⟩
theorem fF_2_4 : fd_fF RX2 2 4 (.array .boolean) := fun r h => by cases h; exact ⟨rfl, rfl, by decide +kernel⟩
theorem fF_2_5 : fd_fF RX2 2 5 (.array .int) := fun r h => by cases h; exact ⟨rfl, rfl, by decide +kernel⟩
theorem fF_2_6 : fd_fF RX2 2 6 (.array .int) := fun r h => by cases h; exact ⟨rfl, rfl, by decide +kernel⟩
theorem fF_2_7 : fd_fF RX2 2 7 (.array .int) := fun r h => by cases h; exact ⟨rfl, rfl, by decide +kernel⟩
theorem fF_2_8 : fd_fF RX2 2 8 (.array .int) := fun r h => by cases h; exact ⟨rfl, rfl, by decide +kernel⟩
theorem fF_2_9 : fd_fF RX2 2 9 (.array .int) := fun r h => by cases h; exact ⟨rfl, rfl, by decide +kernel⟩
theorem fF_2_10 : fd_fF RX2 2 10 (.array .int) := fun r h => by cases h; exact ⟨rfl, rfl, by decide +kernel⟩
theorem fF_5_7 : fd_fF RX5 5 7 (.array .int) := fun r h => by cases h; exact ⟨rfl, rfl, by decide +kernel⟩
theorem fF_5_8 : fd_fF RX5 5 8 (.array .int) := fun r h => by cases h; exact ⟨rfl, rfl, by decide +kernel⟩
theorem fF_5_9 : fd_fF RX5 5 9 (.array .int) := fun r h => by cases h; exact ⟨rfl, rfl, by decide +kernel⟩
theorem fF_5_10 : fd_fF RX5 5 10 (.array .int) := fun r h => by cases h; exact ⟨rfl, rfl, by decide +kernel⟩
theorem fF_5_11 : fd_fF RX5 5 11 (.array .int) := fun r h => by cases h; exact ⟨rfl, rfl, by decide +kernel⟩
theorem fF_5_12 : fd_fF RX5 5 12 (.array .int) := fun r h => by cases h; exact ⟨rfl, rfl, by decide +kernel⟩
theorem fF_5_13 : fd_fF RX5 5 13 (.array .int) := fun r h => by cases h; exact ⟨rfl, rfl, by decide +kernel⟩
theorem fF_5_14 : fd_fF RX5 5 14 (.array .int) := fun r h => by cases h; exact ⟨rfl, rfl, by decide +kernel⟩
theorem fF_5_15 : fd_fF RX5 5 15 (.array .int) := fun r h => by cases h; exact ⟨rfl, rfl, by decide +kernel⟩
theorem fF_5_16 : fd_fF RX5 5 16 (.array .int) := fun r h => by cases h; exact ⟨rfl, rfl, by decide +kernel⟩
theorem fF_6_4 : fd_fF RX6 6 4 (.array (.array .int)) := fun r h => by cases h; exact ⟨rfl, rfl, by decide +kernel⟩
theorem fF_9_2 : fd_fF RX9 9 2 (.array .int) := fun r h => by cases h; exact ⟨rfl, rfl, by decide +kernel⟩
theorem fF_9_3 : fd_fF RX9 9 3 (.array .byte) := fun r h => by cases h; exact ⟨rfl, rfl, by decide +kernel⟩
theorem fF_10_0 : fd_fF RX10 10 0 (.array (.object "ShuffledDays$PlainDay")) := fun r h => by cases h; exact ⟨rfl, rfl, by decide +kernel⟩
theorem fF_10_1 : fd_fF RX10 10 1 (.object "ShuffledDays$Life") := fun r h => by cases h; exact ⟨rfl, rfl, by decide +kernel⟩
theorem fF_10_2 : fd_fF RX10 10 2 (.object "ShuffledDays$Life") := fun r h => by cases h; exact ⟨rfl, rfl, by decide +kernel⟩
theorem fF_10_3 : fd_fF RX10 10 3 (.array (.object "ShuffledDays$Life")) := fun r h => by cases h; exact ⟨rfl, rfl, by decide +kernel⟩
theorem fF_10_4 : fd_fF RX10 10 4 (.array .boolean) := fun r h => by cases h; exact ⟨rfl, rfl, by decide +kernel⟩
theorem fF_10_5 : fd_fF RX10 10 5 (.object "ShuffledDays$Text") := fun r h => by cases h; exact ⟨rfl, rfl, by decide +kernel⟩
theorem fF_10_6 : fd_fF RX10 10 6 (.object "ShuffledDays$Course") := fun r h => by cases h; exact ⟨rfl, rfl, by decide +kernel⟩
theorem fF_10_7 : fd_fF RX10 10 7 (.object "ShuffledDays$NoteSearch") := fun r h => by cases h; exact ⟨rfl, rfl, by decide +kernel⟩
theorem fF_10_8 : fd_fF RX10 10 8 (.array .int) := fun r h => by cases h; exact ⟨rfl, rfl, by decide +kernel⟩
theorem fF_10_9 : fd_fF RX10 10 9 (.array .int) := fun r h => by cases h; exact ⟨rfl, rfl, by decide +kernel⟩
theorem fF_10_10 : fd_fF RX10 10 10 (.array .int) := fun r h => by cases h; exact ⟨rfl, rfl, by decide +kernel⟩
theorem fF_11_0 : fd_fF RX11 11 0 (.array .int) := fun r h => by cases h; exact ⟨rfl, rfl, by decide +kernel⟩
theorem fF_11_2 : fd_fF RX11 11 2 (.array .int) := fun r h => by cases h; exact ⟨rfl, rfl, by decide +kernel⟩
theorem fF_11_3 : fd_fF RX11 11 3 (.array .int) := fun r h => by cases h; exact ⟨rfl, rfl, by decide +kernel⟩
theorem fF_11_4 : fd_fF RX11 11 4 (.array .int) := fun r h => by cases h; exact ⟨rfl, rfl, by decide +kernel⟩
theorem fF_11_5 : fd_fF RX11 11 5 (.array .int) := fun r h => by cases h; exact ⟨rfl, rfl, by decide +kernel⟩
theorem fF_11_6 : fd_fF RX11 11 6 (.array .int) := fun r h => by cases h; exact ⟨rfl, rfl, by decide +kernel⟩
theorem fF_11_8 : fd_fF RX11 11 8 (.array .int) := fun r h => by cases h; exact ⟨rfl, rfl, by decide +kernel⟩
theorem fF_11_9 : fd_fF RX11 11 9 (.array .int) := fun r h => by cases h; exact ⟨rfl, rfl, by decide +kernel⟩
theorem fF_11_11 : fd_fF RX11 11 11 (.array .int) := fun r h => by cases h; exact ⟨rfl, rfl, by decide +kernel⟩
theorem fF_11_12 : fd_fF RX11 11 12 (.array .int) := fun r h => by cases h; exact ⟨rfl, rfl, by decide +kernel⟩
theorem fF_11_14 : fd_fF RX11 11 14 (.array .int) := fun r h => by cases h; exact ⟨rfl, rfl, by decide +kernel⟩
theorem fF_11_15 : fd_fF RX11 11 15 (.array .int) := fun r h => by cases h; exact ⟨rfl, rfl, by decide +kernel⟩
theorem fF_11_18 : fd_fF RX11 11 18 (.array .int) := fun r h => by cases h; exact ⟨rfl, rfl, by decide +kernel⟩
theorem fF_11_19 : fd_fF RX11 11 19 (.array .int) := fun r h => by cases h; exact ⟨rfl, rfl, by decide +kernel⟩
theorem fF_11_20 : fd_fF RX11 11 20 (.array .int) := fun r h => by cases h; exact ⟨rfl, rfl, by decide +kernel⟩
theorem fF_11_21 : fd_fF RX11 11 21 (.array .int) := fun r h => by cases h; exact ⟨rfl, rfl, by decide +kernel⟩
theorem fF_11_23 : fd_fF RX11 11 23 (.array .int) := fun r h => by cases h; exact ⟨rfl, rfl, by decide +kernel⟩
theorem fF_11_26 : fd_fF RX11 11 26 (.array .int) := fun r h => by cases h; exact ⟨rfl, rfl, by decide +kernel⟩
theorem fF_11_27 : fd_fF RX11 11 27 (.array .int) := fun r h => by cases h; exact ⟨rfl, rfl, by decide +kernel⟩
theorem fF_11_28 : fd_fF RX11 11 28 (.array .int) := fun r h => by cases h; exact ⟨rfl, rfl, by decide +kernel⟩
theorem fF_11_34 : fd_fF RX11 11 34 (.array .int) := fun r h => by cases h; exact ⟨rfl, rfl, by decide +kernel⟩
theorem fF_11_35 : fd_fF RX11 11 35 (.array .int) := fun r h => by cases h; exact ⟨rfl, rfl, by decide +kernel⟩
theorem fF_11_36 : fd_fF RX11 11 36 (.array .int) := fun r h => by cases h; exact ⟨rfl, rfl, by decide +kernel⟩
theorem fF_11_37 : fd_fF RX11 11 37 (.array .int) := fun r h => by cases h; exact ⟨rfl, rfl, by decide +kernel⟩
variable {ρ : Nat → Nat} {dC : Nat → ClassId} {dI : Nat → Nat → Nat} {dA : Nat → ClassId}
set_option maxHeartbeats 2000000 in
set_option maxRecDepth 20000 in
theorem c_X7_init (ci h0 : Nat) : KCon ρ dC dI dA yX7_init mX7_init 0 0 [.ref h0] [(h0, .inr (ci, []))] (fun w => w = [(h0, .inr (ci, []))]) := by
  refine KCon.of (by decide) rfl rfl (Nat.le_of_ble_eq_true rfl) ?_
  refine k_aload_n dX7_init_0 rfl ?_
  refine k_obj (fd_in 284 (by decide +kernel) (by decide +kernel)) (by decide) (by decide) dX7_init_1 ?_
  exact k_ret rfl dX7_init_4 rfl
theorem k_lk_1 : k_lkN RX1 1 yX7_init mX7_init := ⟨by simp [k_nest, RX10, RX1, RX7, yX7_init], (fd_in 282 (by decide +kernel) (by decide +kernel)), (fd_in 66 (by decide +kernel) (by decide +kernel)), (fd_in 283 (by decide +kernel) (by decide +kernel)), rfl, rfl, by decide, by decide, by decide +kernel⟩
set_option maxHeartbeats 2000000 in
set_option maxRecDepth 20000 in
theorem c_X1_init (ci h0 : Nat) : KCon ρ dC dI dA yX1_init mX1_init 0 0 [.ref h0] [(h0, .inr (ci, []))] (fun w => w = [(h0, .inr (ci, []))]) := by
  refine KCon.of (by decide) rfl rfl (Nat.le_of_ble_eq_true rfl) ?_
  refine k_aload_n dX1_init_0 rfl ?_
  refine k_initN (w0 := []) (c' := 0) (s' := 0) (c_X7_init ci h0) k_lk_1 rfl (by decide) (by decide) (by decide) rfl rfl (by decide) (by decide) dX1_init_1 (fun w1 hw => ?_)
  subst hw
  exact k_ret rfl dX1_init_4 rfl
theorem k_lk_4 : k_lkN RX4 1 yX7_init mX7_init := ⟨by simp [k_nest, RX10, RX4, RX7, yX7_init], (fd_in 282 (by decide +kernel) (by decide +kernel)), (fd_in 66 (by decide +kernel) (by decide +kernel)), (fd_in 283 (by decide +kernel) (by decide +kernel)), rfl, rfl, by decide, by decide, by decide +kernel⟩
set_option maxHeartbeats 2000000 in
set_option maxRecDepth 20000 in
theorem c_X4_init (ci h0 : Nat) : KCon ρ dC dI dA yX4_init mX4_init 0 0 [.ref h0] [(h0, .inr (ci, []))] (fun w => w = [(h0, .inr (ci, []))]) := by
  refine KCon.of (by decide) rfl rfl (Nat.le_of_ble_eq_true rfl) ?_
  refine k_aload_n dX4_init_0 rfl ?_
  refine k_initN (w0 := []) (c' := 0) (s' := 0) (c_X7_init ci h0) k_lk_4 rfl (by decide) (by decide) (by decide) rfl rfl (by decide) (by decide) dX4_init_1 (fun w1 hw => ?_)
  subst hw
  exact k_ret rfl dX4_init_4 rfl
theorem k_lk_0 : k_lkN RX0 1 yX7_init mX7_init := ⟨by simp [k_nest, RX10, RX0, RX7, yX7_init], (fd_in 282 (by decide +kernel) (by decide +kernel)), (fd_in 66 (by decide +kernel) (by decide +kernel)), (fd_in 283 (by decide +kernel) (by decide +kernel)), rfl, rfl, by decide, by decide, by decide +kernel⟩
set_option maxHeartbeats 2000000 in
set_option maxRecDepth 20000 in
theorem c_X0_init (ci h0 : Nat) : KCon ρ dC dI dA yX0_init mX0_init 0 0 [.ref h0] [(h0, .inr (ci, []))] (fun w => w = [(h0, .inr (ci, []))]) := by
  refine KCon.of (by decide) rfl rfl (Nat.le_of_ble_eq_true rfl) ?_
  refine k_aload_n dX0_init_0 rfl ?_
  refine k_initN (w0 := []) (c' := 0) (s' := 0) (c_X7_init ci h0) k_lk_0 rfl (by decide) (by decide) (by decide) rfl rfl (by decide) (by decide) dX0_init_1 (fun w1 hw => ?_)
  subst hw
  exact k_ret rfl dX0_init_4 rfl
theorem k_lk_8 : k_lkN RX8 1 yX1_init mX1_init := ⟨by simp [k_nest, RX10, RX8, RX1, yX1_init], (fd_in 289 (by decide +kernel) (by decide +kernel)), (fd_in 67 (by decide +kernel) (by decide +kernel)), (fd_in 290 (by decide +kernel) (by decide +kernel)), rfl, rfl, by decide, by decide, by decide +kernel⟩
set_option maxHeartbeats 2000000 in
set_option maxRecDepth 20000 in
theorem c_X8_init (ci h0 : Nat) : KCon ρ dC dI dA yX8_init mX8_init 0 0 [.ref h0] [(h0, .inr (ci, []))] (fun w => w = [(h0, .inr (ci, []))]) := by
  refine KCon.of (by decide) rfl rfl (Nat.le_of_ble_eq_true rfl) ?_
  refine k_aload_n dX8_init_0 rfl ?_
  refine k_initN (w0 := []) (c' := 0) (s' := 0) (c_X1_init ci h0) k_lk_8 rfl (by decide) (by decide) (by decide) rfl rfl (by decide) (by decide) dX8_init_1 (fun w1 hw => ?_)
  subst hw
  exact k_ret rfl dX8_init_4 rfl
theorem k_lk_3 : k_lkN RX3 1 yX4_init mX4_init := ⟨by simp [k_nest, RX10, RX3, RX4, yX4_init], (fd_in 296 (by decide +kernel) (by decide +kernel)), (fd_in 68 (by decide +kernel) (by decide +kernel)), (fd_in 297 (by decide +kernel) (by decide +kernel)), rfl, rfl, by decide, by decide, by decide +kernel⟩
set_option maxHeartbeats 2000000 in
set_option maxRecDepth 20000 in
theorem c_X3_init (ci h0 : Nat) : KCon ρ dC dI dA yX3_init mX3_init 0 0 [.ref h0] [(h0, .inr (ci, []))] (fun w => w = [(h0, .inr (ci, []))]) := by
  refine KCon.of (by decide) rfl rfl (Nat.le_of_ble_eq_true rfl) ?_
  refine k_aload_n dX3_init_0 rfl ?_
  refine k_initN (w0 := []) (c' := 0) (s' := 0) (c_X4_init ci h0) k_lk_3 rfl (by decide) (by decide) (by decide) rfl rfl (by decide) (by decide) dX3_init_1 (fun w1 hw => ?_)
  subst hw
  exact k_ret rfl dX3_init_4 rfl
set_option maxHeartbeats 2000000 in
set_option maxRecDepth 20000 in
theorem c_X2_init (h0 : Nat) : KCon ρ dC dI dA yX2_init mX2_init 10 70 [.ref h0] [(h0, .inr (2, [.int 0, .null, .null, .null, .null, .null, .null, .null, .null, .null, .null]))] (fun w => ∃ q1 q2 q3 q4 q5 q6 q7 q8 q9 q10 : Nat, w = [(h0, .inr (2, [.int 0, .ref q1, .ref q2, .ref q3, .ref q4, .ref q5, .ref q6, .ref q7, .ref q8, .ref q9, .ref q10])), (q1, .inl (dA 0, 7, .inl (fun _ => 0))), (q2, .inl (dA 0, 7, .inl (fun _ => 0))), (q3, .inl (dA 1, 7, .inl (fun _ => 0))), (q4, .inl (dA 1, 7, .inl (fun _ => 0))), (q5, .inl (dA 0, 7, .inl (fun _ => 0))), (q6, .inl (dA 0, 7, .inl (fun _ => 0))), (q7, .inl (dA 0, 7, .inl (fun _ => 0))), (q8, .inl (dA 0, 7, .inl (fun _ => 0))), (q9, .inl (dA 0, 7, .inl (fun _ => 0))), (q10, .inl (dA 0, 7, .inl (fun _ => 0)))]) := by
  refine KCon.of (by decide) rfl rfl (Nat.le_of_ble_eq_true rfl) ?_
  refine k_aload_n dX2_init_0 rfl ?_
  refine k_obj (fd_in 211 (by decide +kernel) (by decide +kernel)) (by decide) (by decide) dX2_init_1 ?_
  refine k_aload_n dX2_init_4 rfl ?_
  refine k_bipush (v := 7) dX2_init_5 (by decide) ?_
  refine k_newa (atype := .int) (t := 0) (N := 7) (c' := 1) (s' := 7) k_arr_int rfl (fun _ _ h => h) rfl (by decide) (by decide) (by decide) rfl rfl (by decide) (by decide) dX2_init_7 (fun q1 => k_w (ws' := [(h0, .inr (2, [.int 0, .null, .null, .null, .null, .null, .null, .null, .null, .null, .null])), (q1, .inl (dA 0, 7, .inl (fun _ => 0)))]) rfl ?_)
  refine k_putF fl_2_9 fF_2_1 rfl rfl (Nat.le_of_ble_eq_true rfl) dX2_init_9 (k_w (ws' := [(h0, .inr (2, [.int 0, .ref q1, .null, .null, .null, .null, .null, .null, .null, .null, .null])), (q1, .inl (dA 0, 7, .inl (fun _ => 0)))]) rfl ?_)
  refine k_aload_n dX2_init_12 rfl ?_
  refine k_bipush (v := 7) dX2_init_13 (by decide) ?_
  refine k_newa (atype := .int) (t := 0) (N := 7) (c' := 2) (s' := 14) k_arr_int rfl (fun _ _ h => h) rfl (by decide) (by decide) (by decide) rfl rfl (by decide) (by decide) dX2_init_15 (fun q2 => k_w (ws' := [(h0, .inr (2, [.int 0, .ref q1, .null, .null, .null, .null, .null, .null, .null, .null, .null])), (q1, .inl (dA 0, 7, .inl (fun _ => 0))), (q2, .inl (dA 0, 7, .inl (fun _ => 0)))]) rfl ?_)
  refine k_putF fl_2_15 fF_2_2 rfl rfl (Nat.le_of_ble_eq_true rfl) dX2_init_17 (k_w (ws' := [(h0, .inr (2, [.int 0, .ref q1, .ref q2, .null, .null, .null, .null, .null, .null, .null, .null])), (q1, .inl (dA 0, 7, .inl (fun _ => 0))), (q2, .inl (dA 0, 7, .inl (fun _ => 0)))]) rfl ?_)
  refine k_aload_n dX2_init_20 rfl ?_
  refine k_bipush (v := 7) dX2_init_21 (by decide) ?_
  refine k_newa (atype := .boolean) (t := 1) (N := 7) (c' := 3) (s' := 21) k_arr_boolean rfl (fun _ _ h => h) rfl (by decide) (by decide) (by decide) rfl rfl (by decide) (by decide) dX2_init_23 (fun q3 => k_w (ws' := [(h0, .inr (2, [.int 0, .ref q1, .ref q2, .null, .null, .null, .null, .null, .null, .null, .null])), (q1, .inl (dA 0, 7, .inl (fun _ => 0))), (q2, .inl (dA 0, 7, .inl (fun _ => 0))), (q3, .inl (dA 1, 7, .inl (fun _ => 0)))]) rfl ?_)
  refine k_putF fl_2_18 fF_2_3 rfl rfl (Nat.le_of_ble_eq_true rfl) dX2_init_25 (k_w (ws' := [(h0, .inr (2, [.int 0, .ref q1, .ref q2, .ref q3, .null, .null, .null, .null, .null, .null, .null])), (q1, .inl (dA 0, 7, .inl (fun _ => 0))), (q2, .inl (dA 0, 7, .inl (fun _ => 0))), (q3, .inl (dA 1, 7, .inl (fun _ => 0)))]) rfl ?_)
  refine k_aload_n dX2_init_28 rfl ?_
  refine k_bipush (v := 7) dX2_init_29 (by decide) ?_
  refine k_newa (atype := .boolean) (t := 1) (N := 7) (c' := 4) (s' := 28) k_arr_boolean rfl (fun _ _ h => h) rfl (by decide) (by decide) (by decide) rfl rfl (by decide) (by decide) dX2_init_31 (fun q4 => k_w (ws' := [(h0, .inr (2, [.int 0, .ref q1, .ref q2, .ref q3, .null, .null, .null, .null, .null, .null, .null])), (q1, .inl (dA 0, 7, .inl (fun _ => 0))), (q2, .inl (dA 0, 7, .inl (fun _ => 0))), (q3, .inl (dA 1, 7, .inl (fun _ => 0))), (q4, .inl (dA 1, 7, .inl (fun _ => 0)))]) rfl ?_)
  refine k_putF fl_2_22 fF_2_4 rfl rfl (Nat.le_of_ble_eq_true rfl) dX2_init_33 (k_w (ws' := [(h0, .inr (2, [.int 0, .ref q1, .ref q2, .ref q3, .ref q4, .null, .null, .null, .null, .null, .null])), (q1, .inl (dA 0, 7, .inl (fun _ => 0))), (q2, .inl (dA 0, 7, .inl (fun _ => 0))), (q3, .inl (dA 1, 7, .inl (fun _ => 0))), (q4, .inl (dA 1, 7, .inl (fun _ => 0)))]) rfl ?_)
  refine k_aload_n dX2_init_36 rfl ?_
  refine k_bipush (v := 7) dX2_init_37 (by decide) ?_
  refine k_newa (atype := .int) (t := 0) (N := 7) (c' := 5) (s' := 35) k_arr_int rfl (fun _ _ h => h) rfl (by decide) (by decide) (by decide) rfl rfl (by decide) (by decide) dX2_init_39 (fun q5 => k_w (ws' := [(h0, .inr (2, [.int 0, .ref q1, .ref q2, .ref q3, .ref q4, .null, .null, .null, .null, .null, .null])), (q1, .inl (dA 0, 7, .inl (fun _ => 0))), (q2, .inl (dA 0, 7, .inl (fun _ => 0))), (q3, .inl (dA 1, 7, .inl (fun _ => 0))), (q4, .inl (dA 1, 7, .inl (fun _ => 0))), (q5, .inl (dA 0, 7, .inl (fun _ => 0)))]) rfl ?_)
  refine k_putF fl_2_25 fF_2_5 rfl rfl (Nat.le_of_ble_eq_true rfl) dX2_init_41 (k_w (ws' := [(h0, .inr (2, [.int 0, .ref q1, .ref q2, .ref q3, .ref q4, .ref q5, .null, .null, .null, .null, .null])), (q1, .inl (dA 0, 7, .inl (fun _ => 0))), (q2, .inl (dA 0, 7, .inl (fun _ => 0))), (q3, .inl (dA 1, 7, .inl (fun _ => 0))), (q4, .inl (dA 1, 7, .inl (fun _ => 0))), (q5, .inl (dA 0, 7, .inl (fun _ => 0)))]) rfl ?_)
  refine k_aload_n dX2_init_44 rfl ?_
  refine k_bipush (v := 7) dX2_init_45 (by decide) ?_
  refine k_newa (atype := .int) (t := 0) (N := 7) (c' := 6) (s' := 42) k_arr_int rfl (fun _ _ h => h) rfl (by decide) (by decide) (by decide) rfl rfl (by decide) (by decide) dX2_init_47 (fun q6 => k_w (ws' := [(h0, .inr (2, [.int 0, .ref q1, .ref q2, .ref q3, .ref q4, .ref q5, .null, .null, .null, .null, .null])), (q1, .inl (dA 0, 7, .inl (fun _ => 0))), (q2, .inl (dA 0, 7, .inl (fun _ => 0))), (q3, .inl (dA 1, 7, .inl (fun _ => 0))), (q4, .inl (dA 1, 7, .inl (fun _ => 0))), (q5, .inl (dA 0, 7, .inl (fun _ => 0))), (q6, .inl (dA 0, 7, .inl (fun _ => 0)))]) rfl ?_)
  refine k_putF fl_2_28 fF_2_6 rfl rfl (Nat.le_of_ble_eq_true rfl) dX2_init_49 (k_w (ws' := [(h0, .inr (2, [.int 0, .ref q1, .ref q2, .ref q3, .ref q4, .ref q5, .ref q6, .null, .null, .null, .null])), (q1, .inl (dA 0, 7, .inl (fun _ => 0))), (q2, .inl (dA 0, 7, .inl (fun _ => 0))), (q3, .inl (dA 1, 7, .inl (fun _ => 0))), (q4, .inl (dA 1, 7, .inl (fun _ => 0))), (q5, .inl (dA 0, 7, .inl (fun _ => 0))), (q6, .inl (dA 0, 7, .inl (fun _ => 0)))]) rfl ?_)
  refine k_aload_n dX2_init_52 rfl ?_
  refine k_bipush (v := 7) dX2_init_53 (by decide) ?_
  refine k_newa (atype := .int) (t := 0) (N := 7) (c' := 7) (s' := 49) k_arr_int rfl (fun _ _ h => h) rfl (by decide) (by decide) (by decide) rfl rfl (by decide) (by decide) dX2_init_55 (fun q7 => k_w (ws' := [(h0, .inr (2, [.int 0, .ref q1, .ref q2, .ref q3, .ref q4, .ref q5, .ref q6, .null, .null, .null, .null])), (q1, .inl (dA 0, 7, .inl (fun _ => 0))), (q2, .inl (dA 0, 7, .inl (fun _ => 0))), (q3, .inl (dA 1, 7, .inl (fun _ => 0))), (q4, .inl (dA 1, 7, .inl (fun _ => 0))), (q5, .inl (dA 0, 7, .inl (fun _ => 0))), (q6, .inl (dA 0, 7, .inl (fun _ => 0))), (q7, .inl (dA 0, 7, .inl (fun _ => 0)))]) rfl ?_)
  refine k_putF fl_2_31 fF_2_7 rfl rfl (Nat.le_of_ble_eq_true rfl) dX2_init_57 (k_w (ws' := [(h0, .inr (2, [.int 0, .ref q1, .ref q2, .ref q3, .ref q4, .ref q5, .ref q6, .ref q7, .null, .null, .null])), (q1, .inl (dA 0, 7, .inl (fun _ => 0))), (q2, .inl (dA 0, 7, .inl (fun _ => 0))), (q3, .inl (dA 1, 7, .inl (fun _ => 0))), (q4, .inl (dA 1, 7, .inl (fun _ => 0))), (q5, .inl (dA 0, 7, .inl (fun _ => 0))), (q6, .inl (dA 0, 7, .inl (fun _ => 0))), (q7, .inl (dA 0, 7, .inl (fun _ => 0)))]) rfl ?_)
  refine k_aload_n dX2_init_60 rfl ?_
  refine k_bipush (v := 7) dX2_init_61 (by decide) ?_
  refine k_newa (atype := .int) (t := 0) (N := 7) (c' := 8) (s' := 56) k_arr_int rfl (fun _ _ h => h) rfl (by decide) (by decide) (by decide) rfl rfl (by decide) (by decide) dX2_init_63 (fun q8 => k_w (ws' := [(h0, .inr (2, [.int 0, .ref q1, .ref q2, .ref q3, .ref q4, .ref q5, .ref q6, .ref q7, .null, .null, .null])), (q1, .inl (dA 0, 7, .inl (fun _ => 0))), (q2, .inl (dA 0, 7, .inl (fun _ => 0))), (q3, .inl (dA 1, 7, .inl (fun _ => 0))), (q4, .inl (dA 1, 7, .inl (fun _ => 0))), (q5, .inl (dA 0, 7, .inl (fun _ => 0))), (q6, .inl (dA 0, 7, .inl (fun _ => 0))), (q7, .inl (dA 0, 7, .inl (fun _ => 0))), (q8, .inl (dA 0, 7, .inl (fun _ => 0)))]) rfl ?_)
  refine k_putF fl_2_34 fF_2_8 rfl rfl (Nat.le_of_ble_eq_true rfl) dX2_init_65 (k_w (ws' := [(h0, .inr (2, [.int 0, .ref q1, .ref q2, .ref q3, .ref q4, .ref q5, .ref q6, .ref q7, .ref q8, .null, .null])), (q1, .inl (dA 0, 7, .inl (fun _ => 0))), (q2, .inl (dA 0, 7, .inl (fun _ => 0))), (q3, .inl (dA 1, 7, .inl (fun _ => 0))), (q4, .inl (dA 1, 7, .inl (fun _ => 0))), (q5, .inl (dA 0, 7, .inl (fun _ => 0))), (q6, .inl (dA 0, 7, .inl (fun _ => 0))), (q7, .inl (dA 0, 7, .inl (fun _ => 0))), (q8, .inl (dA 0, 7, .inl (fun _ => 0)))]) rfl ?_)
  refine k_aload_n dX2_init_68 rfl ?_
  refine k_bipush (v := 7) dX2_init_69 (by decide) ?_
  refine k_newa (atype := .int) (t := 0) (N := 7) (c' := 9) (s' := 63) k_arr_int rfl (fun _ _ h => h) rfl (by decide) (by decide) (by decide) rfl rfl (by decide) (by decide) dX2_init_71 (fun q9 => k_w (ws' := [(h0, .inr (2, [.int 0, .ref q1, .ref q2, .ref q3, .ref q4, .ref q5, .ref q6, .ref q7, .ref q8, .null, .null])), (q1, .inl (dA 0, 7, .inl (fun _ => 0))), (q2, .inl (dA 0, 7, .inl (fun _ => 0))), (q3, .inl (dA 1, 7, .inl (fun _ => 0))), (q4, .inl (dA 1, 7, .inl (fun _ => 0))), (q5, .inl (dA 0, 7, .inl (fun _ => 0))), (q6, .inl (dA 0, 7, .inl (fun _ => 0))), (q7, .inl (dA 0, 7, .inl (fun _ => 0))), (q8, .inl (dA 0, 7, .inl (fun _ => 0))), (q9, .inl (dA 0, 7, .inl (fun _ => 0)))]) rfl ?_)
  refine k_putF fl_2_37 fF_2_9 rfl rfl (Nat.le_of_ble_eq_true rfl) dX2_init_73 (k_w (ws' := [(h0, .inr (2, [.int 0, .ref q1, .ref q2, .ref q3, .ref q4, .ref q5, .ref q6, .ref q7, .ref q8, .ref q9, .null])), (q1, .inl (dA 0, 7, .inl (fun _ => 0))), (q2, .inl (dA 0, 7, .inl (fun _ => 0))), (q3, .inl (dA 1, 7, .inl (fun _ => 0))), (q4, .inl (dA 1, 7, .inl (fun _ => 0))), (q5, .inl (dA 0, 7, .inl (fun _ => 0))), (q6, .inl (dA 0, 7, .inl (fun _ => 0))), (q7, .inl (dA 0, 7, .inl (fun _ => 0))), (q8, .inl (dA 0, 7, .inl (fun _ => 0))), (q9, .inl (dA 0, 7, .inl (fun _ => 0)))]) rfl ?_)
  refine k_aload_n dX2_init_76 rfl ?_
  refine k_bipush (v := 7) dX2_init_77 (by decide) ?_
  refine k_newa (atype := .int) (t := 0) (N := 7) (c' := 10) (s' := 70) k_arr_int rfl (fun _ _ h => h) rfl (by decide) (by decide) (by decide) rfl rfl (by decide) (by decide) dX2_init_79 (fun q10 => k_w (ws' := [(h0, .inr (2, [.int 0, .ref q1, .ref q2, .ref q3, .ref q4, .ref q5, .ref q6, .ref q7, .ref q8, .ref q9, .null])), (q1, .inl (dA 0, 7, .inl (fun _ => 0))), (q2, .inl (dA 0, 7, .inl (fun _ => 0))), (q3, .inl (dA 1, 7, .inl (fun _ => 0))), (q4, .inl (dA 1, 7, .inl (fun _ => 0))), (q5, .inl (dA 0, 7, .inl (fun _ => 0))), (q6, .inl (dA 0, 7, .inl (fun _ => 0))), (q7, .inl (dA 0, 7, .inl (fun _ => 0))), (q8, .inl (dA 0, 7, .inl (fun _ => 0))), (q9, .inl (dA 0, 7, .inl (fun _ => 0))), (q10, .inl (dA 0, 7, .inl (fun _ => 0)))]) rfl ?_)
  refine k_putF fl_2_40 fF_2_10 rfl rfl (Nat.le_of_ble_eq_true rfl) dX2_init_81 (k_w (ws' := [(h0, .inr (2, [.int 0, .ref q1, .ref q2, .ref q3, .ref q4, .ref q5, .ref q6, .ref q7, .ref q8, .ref q9, .ref q10])), (q1, .inl (dA 0, 7, .inl (fun _ => 0))), (q2, .inl (dA 0, 7, .inl (fun _ => 0))), (q3, .inl (dA 1, 7, .inl (fun _ => 0))), (q4, .inl (dA 1, 7, .inl (fun _ => 0))), (q5, .inl (dA 0, 7, .inl (fun _ => 0))), (q6, .inl (dA 0, 7, .inl (fun _ => 0))), (q7, .inl (dA 0, 7, .inl (fun _ => 0))), (q8, .inl (dA 0, 7, .inl (fun _ => 0))), (q9, .inl (dA 0, 7, .inl (fun _ => 0))), (q10, .inl (dA 0, 7, .inl (fun _ => 0)))]) rfl ?_)
  exact k_ret rfl dX2_init_84 ⟨q1, q2, q3, q4, q5, q6, q7, q8, q9, q10, rfl⟩
set_option maxHeartbeats 2000000 in
set_option maxRecDepth 20000 in
theorem c_X6_init (h0 : Nat) : KCon ρ dC dI dA yX6_init mX6_init 5 32 [.ref h0] [(h0, .inr (6, [.int 0, .int 0, .int 0, .int 0, .null]))] (fun w => ∃ q1 : Nat, w = ((h0, .inr (6, [.int 0, .int 0, .int 0, .int 0, .ref q1]))) :: k_grid dA q1) := by
  refine KCon.of (by decide) rfl rfl (Nat.le_of_ble_eq_true rfl) ?_
  refine k_aload_n dX6_init_0 rfl ?_
  refine k_obj (fd_in 258 (by decide +kernel) (by decide +kernel)) (by decide) (by decide) dX6_init_1 ?_
  refine k_aload_n dX6_init_4 rfl ?_
  refine k_iconst (v := 4) dX6_init_5 (by decide) ?_
  refine k_bipush (v := 7) dX6_init_6 (by decide) ?_
  refine k_mul (c' := 5) (s' := 32) (fd_in 259 (by decide +kernel) (by decide +kernel)) k_arr_int rfl rfl (by decide) (by decide) dX6_init_8 (fun q1 => ?_)
  refine k_putF fl_6_11 fF_6_4 rfl rfl (Nat.le_of_ble_eq_true rfl) dX6_init_12 (k_w (ws' := ((h0, .inr (6, [.int 0, .int 0, .int 0, .int 0, .ref q1]))) :: k_grid dA q1) rfl ?_)
  exact k_ret rfl dX6_init_15 ⟨q1, rfl⟩
set_option maxHeartbeats 2000000 in
set_option maxRecDepth 20000 in
theorem c_X9_init (h0 : Nat) : KCon ρ dC dI dA yX9_init mX9_init 2 180 [.ref h0] [(h0, .inr (9, [.int 0, .int 0, .null, .null, .int 0, .int 0, .int 0, .int 0]))] (fun w => ∃ q1 q2 : Nat, w = [(h0, .inr (9, [.int 0, .int 0, .ref q1, .ref q2, .int 0, .int 0, .int 0, .int 0])), (q1, .inl (dA 0, 30, .inl (fun _ => 0))), (q2, .inl (dA 2, 150, .inl (fun _ => 0)))]) := by
  refine KCon.of (by decide) rfl rfl (Nat.le_of_ble_eq_true rfl) ?_
  refine k_aload_n dX9_init_0 rfl ?_
  refine k_obj (fd_in 175 (by decide +kernel) (by decide +kernel)) (by decide) (by decide) dX9_init_1 ?_
  refine k_aload_n dX9_init_4 rfl ?_
  refine k_iconst (v := 0) dX9_init_5 (by decide) ?_
  refine k_put fl_9_9 fw_9_0 rfl rfl (Nat.le_of_ble_eq_true rfl) dX9_init_6 (k_w (ws' := [(h0, .inr (9, [.int 0, .int 0, .null, .null, .int 0, .int 0, .int 0, .int 0]))]) rfl ?_)
  refine k_aload_n dX9_init_9 rfl ?_
  refine k_iconst (v := 0) dX9_init_10 (by decide) ?_
  refine k_put fl_9_15 fw_9_1 rfl rfl (Nat.le_of_ble_eq_true rfl) dX9_init_11 (k_w (ws' := [(h0, .inr (9, [.int 0, .int 0, .null, .null, .int 0, .int 0, .int 0, .int 0]))]) rfl ?_)
  refine k_aload_n dX9_init_14 rfl ?_
  refine k_bipush (v := 30) dX9_init_15 (by decide) ?_
  refine k_newa (atype := .int) (t := 0) (N := 30) (c' := 1) (s' := 30) k_arr_int rfl (fun _ _ h => h) rfl (by decide) (by decide) (by decide) rfl rfl (by decide) (by decide) dX9_init_17 (fun q1 => k_w (ws' := [(h0, .inr (9, [.int 0, .int 0, .null, .null, .int 0, .int 0, .int 0, .int 0])), (q1, .inl (dA 0, 30, .inl (fun _ => 0)))]) rfl ?_)
  refine k_putF fl_9_18 fF_9_2 rfl rfl (Nat.le_of_ble_eq_true rfl) dX9_init_19 (k_w (ws' := [(h0, .inr (9, [.int 0, .int 0, .ref q1, .null, .int 0, .int 0, .int 0, .int 0])), (q1, .inl (dA 0, 30, .inl (fun _ => 0)))]) rfl ?_)
  refine k_aload_n dX9_init_22 rfl ?_
  refine k_sipush (v := 150) dX9_init_23 (by decide) ?_
  refine k_newa (atype := .byte) (t := 2) (N := 150) (c' := 2) (s' := 180) k_arr_byte rfl (fun _ _ h => h) rfl (by decide) (by decide) (by decide) rfl rfl (by decide) (by decide) dX9_init_26 (fun q2 => k_w (ws' := [(h0, .inr (9, [.int 0, .int 0, .ref q1, .null, .int 0, .int 0, .int 0, .int 0])), (q1, .inl (dA 0, 30, .inl (fun _ => 0))), (q2, .inl (dA 2, 150, .inl (fun _ => 0)))]) rfl ?_)
  refine k_putF fl_9_22 fF_9_3 rfl rfl (Nat.le_of_ble_eq_true rfl) dX9_init_28 (k_w (ws' := [(h0, .inr (9, [.int 0, .int 0, .ref q1, .ref q2, .int 0, .int 0, .int 0, .int 0])), (q1, .inl (dA 0, 30, .inl (fun _ => 0))), (q2, .inl (dA 2, 150, .inl (fun _ => 0)))]) rfl ?_)
  exact k_ret rfl dX9_init_31 ⟨q1, q2, rfl⟩
set_option maxHeartbeats 2000000 in
set_option maxRecDepth 20000 in
theorem c_X5_init (h0 : Nat) : KCon ρ dC dI dA yX5_init mX5_init 10 62 [.ref h0] [(h0, .inr (5, [.int 0, .int 0, .int 0, .int 0, .int 0, .int 0, .int 0, .null, .null, .null, .null, .null, .null, .null, .null, .null, .null]))] (fun w => ∃ (a : Nat → Nat) (I : fdI) (L : fdL), a 0 = h0 ∧ w = fd_ws fd_SL a dA I L ∧ anL (fun _ _ => 0) I 4) := by
  refine KCon.of (by decide) rfl rfl (Nat.le_of_ble_eq_true rfl) ?_
  refine k_aload_n dX5_init_0 rfl ?_
  refine k_obj (fd_in 94 (by decide +kernel) (by decide +kernel)) (by decide) (by decide) dX5_init_1 ?_
  refine k_aload_n dX5_init_4 rfl ?_
  refine k_bipush (v := 7) dX5_init_5 (by decide) ?_
  refine k_newa (atype := .int) (t := 0) (N := 7) (c' := 1) (s' := 7) k_arr_int rfl (fun _ _ h => h) rfl (by decide) (by decide) (by decide) rfl rfl (by decide) (by decide) dX5_init_7 (fun q1 => k_w (ws' := [(h0, .inr (5, [.int 0, .int 0, .int 0, .int 0, .int 0, .int 0, .int 0, .null, .null, .null, .null, .null, .null, .null, .null, .null, .null])), (q1, .inl (dA 0, 7, .inl (fun _ => 0)))]) rfl ?_)
  refine k_putF fl_5_9 fF_5_7 rfl rfl (Nat.le_of_ble_eq_true rfl) dX5_init_9 (k_w (ws' := [(h0, .inr (5, [.int 0, .int 0, .int 0, .int 0, .int 0, .int 0, .int 0, .ref q1, .null, .null, .null, .null, .null, .null, .null, .null, .null])), (q1, .inl (dA 0, 7, .inl (fun _ => 0)))]) rfl ?_)
  refine k_aload_n dX5_init_12 rfl ?_
  refine k_bipush (v := 7) dX5_init_13 (by decide) ?_
  refine k_newa (atype := .int) (t := 0) (N := 7) (c' := 2) (s' := 14) k_arr_int rfl (fun _ _ h => h) rfl (by decide) (by decide) (by decide) rfl rfl (by decide) (by decide) dX5_init_15 (fun q2 => k_w (ws' := [(h0, .inr (5, [.int 0, .int 0, .int 0, .int 0, .int 0, .int 0, .int 0, .ref q1, .null, .null, .null, .null, .null, .null, .null, .null, .null])), (q1, .inl (dA 0, 7, .inl (fun _ => 0))), (q2, .inl (dA 0, 7, .inl (fun _ => 0)))]) rfl ?_)
  refine k_putF fl_5_15 fF_5_8 rfl rfl (Nat.le_of_ble_eq_true rfl) dX5_init_17 (k_w (ws' := [(h0, .inr (5, [.int 0, .int 0, .int 0, .int 0, .int 0, .int 0, .int 0, .ref q1, .ref q2, .null, .null, .null, .null, .null, .null, .null, .null])), (q1, .inl (dA 0, 7, .inl (fun _ => 0))), (q2, .inl (dA 0, 7, .inl (fun _ => 0)))]) rfl ?_)
  refine k_aload_n dX5_init_20 rfl ?_
  refine k_bipush (v := 7) dX5_init_21 (by decide) ?_
  refine k_newa (atype := .int) (t := 0) (N := 7) (c' := 3) (s' := 21) k_arr_int rfl (fun _ _ h => h) rfl (by decide) (by decide) (by decide) rfl rfl (by decide) (by decide) dX5_init_23 (fun q3 => k_w (ws' := [(h0, .inr (5, [.int 0, .int 0, .int 0, .int 0, .int 0, .int 0, .int 0, .ref q1, .ref q2, .null, .null, .null, .null, .null, .null, .null, .null])), (q1, .inl (dA 0, 7, .inl (fun _ => 0))), (q2, .inl (dA 0, 7, .inl (fun _ => 0))), (q3, .inl (dA 0, 7, .inl (fun _ => 0)))]) rfl ?_)
  refine k_putF fl_5_18 fF_5_9 rfl rfl (Nat.le_of_ble_eq_true rfl) dX5_init_25 (k_w (ws' := [(h0, .inr (5, [.int 0, .int 0, .int 0, .int 0, .int 0, .int 0, .int 0, .ref q1, .ref q2, .ref q3, .null, .null, .null, .null, .null, .null, .null])), (q1, .inl (dA 0, 7, .inl (fun _ => 0))), (q2, .inl (dA 0, 7, .inl (fun _ => 0))), (q3, .inl (dA 0, 7, .inl (fun _ => 0)))]) rfl ?_)
  refine k_aload_n dX5_init_28 rfl ?_
  refine k_bipush (v := 7) dX5_init_29 (by decide) ?_
  refine k_newa (atype := .int) (t := 0) (N := 7) (c' := 4) (s' := 28) k_arr_int rfl (fun _ _ h => h) rfl (by decide) (by decide) (by decide) rfl rfl (by decide) (by decide) dX5_init_31 (fun q4 => k_w (ws' := [(h0, .inr (5, [.int 0, .int 0, .int 0, .int 0, .int 0, .int 0, .int 0, .ref q1, .ref q2, .ref q3, .null, .null, .null, .null, .null, .null, .null])), (q1, .inl (dA 0, 7, .inl (fun _ => 0))), (q2, .inl (dA 0, 7, .inl (fun _ => 0))), (q3, .inl (dA 0, 7, .inl (fun _ => 0))), (q4, .inl (dA 0, 7, .inl (fun _ => 0)))]) rfl ?_)
  refine k_putF fl_5_21 fF_5_10 rfl rfl (Nat.le_of_ble_eq_true rfl) dX5_init_33 (k_w (ws' := [(h0, .inr (5, [.int 0, .int 0, .int 0, .int 0, .int 0, .int 0, .int 0, .ref q1, .ref q2, .ref q3, .ref q4, .null, .null, .null, .null, .null, .null])), (q1, .inl (dA 0, 7, .inl (fun _ => 0))), (q2, .inl (dA 0, 7, .inl (fun _ => 0))), (q3, .inl (dA 0, 7, .inl (fun _ => 0))), (q4, .inl (dA 0, 7, .inl (fun _ => 0)))]) rfl ?_)
  refine k_aload_n dX5_init_36 rfl ?_
  refine k_bipush (v := 7) dX5_init_37 (by decide) ?_
  refine k_newa (atype := .int) (t := 0) (N := 7) (c' := 5) (s' := 35) k_arr_int rfl (fun _ _ h => h) rfl (by decide) (by decide) (by decide) rfl rfl (by decide) (by decide) dX5_init_39 (fun q5 => k_w (ws' := [(h0, .inr (5, [.int 0, .int 0, .int 0, .int 0, .int 0, .int 0, .int 0, .ref q1, .ref q2, .ref q3, .ref q4, .null, .null, .null, .null, .null, .null])), (q1, .inl (dA 0, 7, .inl (fun _ => 0))), (q2, .inl (dA 0, 7, .inl (fun _ => 0))), (q3, .inl (dA 0, 7, .inl (fun _ => 0))), (q4, .inl (dA 0, 7, .inl (fun _ => 0))), (q5, .inl (dA 0, 7, .inl (fun _ => 0)))]) rfl ?_)
  refine k_putF fl_5_24 fF_5_11 rfl rfl (Nat.le_of_ble_eq_true rfl) dX5_init_41 (k_w (ws' := [(h0, .inr (5, [.int 0, .int 0, .int 0, .int 0, .int 0, .int 0, .int 0, .ref q1, .ref q2, .ref q3, .ref q4, .ref q5, .null, .null, .null, .null, .null])), (q1, .inl (dA 0, 7, .inl (fun _ => 0))), (q2, .inl (dA 0, 7, .inl (fun _ => 0))), (q3, .inl (dA 0, 7, .inl (fun _ => 0))), (q4, .inl (dA 0, 7, .inl (fun _ => 0))), (q5, .inl (dA 0, 7, .inl (fun _ => 0)))]) rfl ?_)
  refine k_aload_n dX5_init_44 rfl ?_
  refine k_bipush (v := 6) dX5_init_45 (by decide) ?_
  refine k_newa (atype := .int) (t := 0) (N := 6) (c' := 6) (s' := 41) k_arr_int rfl (fun _ _ h => h) rfl (by decide) (by decide) (by decide) rfl rfl (by decide) (by decide) dX5_init_47 (fun q6 => k_w (ws' := [(h0, .inr (5, [.int 0, .int 0, .int 0, .int 0, .int 0, .int 0, .int 0, .ref q1, .ref q2, .ref q3, .ref q4, .ref q5, .null, .null, .null, .null, .null])), (q1, .inl (dA 0, 7, .inl (fun _ => 0))), (q2, .inl (dA 0, 7, .inl (fun _ => 0))), (q3, .inl (dA 0, 7, .inl (fun _ => 0))), (q4, .inl (dA 0, 7, .inl (fun _ => 0))), (q5, .inl (dA 0, 7, .inl (fun _ => 0))), (q6, .inl (dA 0, 6, .inl (fun _ => 0)))]) rfl ?_)
  refine k_putF fl_5_27 fF_5_12 rfl rfl (Nat.le_of_ble_eq_true rfl) dX5_init_49 (k_w (ws' := [(h0, .inr (5, [.int 0, .int 0, .int 0, .int 0, .int 0, .int 0, .int 0, .ref q1, .ref q2, .ref q3, .ref q4, .ref q5, .ref q6, .null, .null, .null, .null])), (q1, .inl (dA 0, 7, .inl (fun _ => 0))), (q2, .inl (dA 0, 7, .inl (fun _ => 0))), (q3, .inl (dA 0, 7, .inl (fun _ => 0))), (q4, .inl (dA 0, 7, .inl (fun _ => 0))), (q5, .inl (dA 0, 7, .inl (fun _ => 0))), (q6, .inl (dA 0, 6, .inl (fun _ => 0)))]) rfl ?_)
  refine k_aload_n dX5_init_52 rfl ?_
  refine k_bipush (v := 6) dX5_init_53 (by decide) ?_
  refine k_newa (atype := .int) (t := 0) (N := 6) (c' := 7) (s' := 47) k_arr_int rfl (fun _ _ h => h) rfl (by decide) (by decide) (by decide) rfl rfl (by decide) (by decide) dX5_init_55 (fun q7 => k_w (ws' := [(h0, .inr (5, [.int 0, .int 0, .int 0, .int 0, .int 0, .int 0, .int 0, .ref q1, .ref q2, .ref q3, .ref q4, .ref q5, .ref q6, .null, .null, .null, .null])), (q1, .inl (dA 0, 7, .inl (fun _ => 0))), (q2, .inl (dA 0, 7, .inl (fun _ => 0))), (q3, .inl (dA 0, 7, .inl (fun _ => 0))), (q4, .inl (dA 0, 7, .inl (fun _ => 0))), (q5, .inl (dA 0, 7, .inl (fun _ => 0))), (q6, .inl (dA 0, 6, .inl (fun _ => 0))), (q7, .inl (dA 0, 6, .inl (fun _ => 0)))]) rfl ?_)
  refine k_putF fl_5_30 fF_5_13 rfl rfl (Nat.le_of_ble_eq_true rfl) dX5_init_57 (k_w (ws' := [(h0, .inr (5, [.int 0, .int 0, .int 0, .int 0, .int 0, .int 0, .int 0, .ref q1, .ref q2, .ref q3, .ref q4, .ref q5, .ref q6, .ref q7, .null, .null, .null])), (q1, .inl (dA 0, 7, .inl (fun _ => 0))), (q2, .inl (dA 0, 7, .inl (fun _ => 0))), (q3, .inl (dA 0, 7, .inl (fun _ => 0))), (q4, .inl (dA 0, 7, .inl (fun _ => 0))), (q5, .inl (dA 0, 7, .inl (fun _ => 0))), (q6, .inl (dA 0, 6, .inl (fun _ => 0))), (q7, .inl (dA 0, 6, .inl (fun _ => 0)))]) rfl ?_)
  refine k_aload_n dX5_init_60 rfl ?_
  refine k_bipush (v := 6) dX5_init_61 (by decide) ?_
  refine k_newa (atype := .int) (t := 0) (N := 6) (c' := 8) (s' := 53) k_arr_int rfl (fun _ _ h => h) rfl (by decide) (by decide) (by decide) rfl rfl (by decide) (by decide) dX5_init_63 (fun q8 => k_w (ws' := [(h0, .inr (5, [.int 0, .int 0, .int 0, .int 0, .int 0, .int 0, .int 0, .ref q1, .ref q2, .ref q3, .ref q4, .ref q5, .ref q6, .ref q7, .null, .null, .null])), (q1, .inl (dA 0, 7, .inl (fun _ => 0))), (q2, .inl (dA 0, 7, .inl (fun _ => 0))), (q3, .inl (dA 0, 7, .inl (fun _ => 0))), (q4, .inl (dA 0, 7, .inl (fun _ => 0))), (q5, .inl (dA 0, 7, .inl (fun _ => 0))), (q6, .inl (dA 0, 6, .inl (fun _ => 0))), (q7, .inl (dA 0, 6, .inl (fun _ => 0))), (q8, .inl (dA 0, 6, .inl (fun _ => 0)))]) rfl ?_)
  refine k_putF fl_5_33 fF_5_14 rfl rfl (Nat.le_of_ble_eq_true rfl) dX5_init_65 (k_w (ws' := [(h0, .inr (5, [.int 0, .int 0, .int 0, .int 0, .int 0, .int 0, .int 0, .ref q1, .ref q2, .ref q3, .ref q4, .ref q5, .ref q6, .ref q7, .ref q8, .null, .null])), (q1, .inl (dA 0, 7, .inl (fun _ => 0))), (q2, .inl (dA 0, 7, .inl (fun _ => 0))), (q3, .inl (dA 0, 7, .inl (fun _ => 0))), (q4, .inl (dA 0, 7, .inl (fun _ => 0))), (q5, .inl (dA 0, 7, .inl (fun _ => 0))), (q6, .inl (dA 0, 6, .inl (fun _ => 0))), (q7, .inl (dA 0, 6, .inl (fun _ => 0))), (q8, .inl (dA 0, 6, .inl (fun _ => 0)))]) rfl ?_)
  refine k_aload_n dX5_init_68 rfl ?_
  refine k_bipush (v := 6) dX5_init_69 (by decide) ?_
  refine k_newa (atype := .int) (t := 0) (N := 6) (c' := 9) (s' := 59) k_arr_int rfl (fun _ _ h => h) rfl (by decide) (by decide) (by decide) rfl rfl (by decide) (by decide) dX5_init_71 (fun q9 => k_w (ws' := [(h0, .inr (5, [.int 0, .int 0, .int 0, .int 0, .int 0, .int 0, .int 0, .ref q1, .ref q2, .ref q3, .ref q4, .ref q5, .ref q6, .ref q7, .ref q8, .null, .null])), (q1, .inl (dA 0, 7, .inl (fun _ => 0))), (q2, .inl (dA 0, 7, .inl (fun _ => 0))), (q3, .inl (dA 0, 7, .inl (fun _ => 0))), (q4, .inl (dA 0, 7, .inl (fun _ => 0))), (q5, .inl (dA 0, 7, .inl (fun _ => 0))), (q6, .inl (dA 0, 6, .inl (fun _ => 0))), (q7, .inl (dA 0, 6, .inl (fun _ => 0))), (q8, .inl (dA 0, 6, .inl (fun _ => 0))), (q9, .inl (dA 0, 6, .inl (fun _ => 0)))]) rfl ?_)
  refine k_putF fl_5_36 fF_5_15 rfl rfl (Nat.le_of_ble_eq_true rfl) dX5_init_73 (k_w (ws' := [(h0, .inr (5, [.int 0, .int 0, .int 0, .int 0, .int 0, .int 0, .int 0, .ref q1, .ref q2, .ref q3, .ref q4, .ref q5, .ref q6, .ref q7, .ref q8, .ref q9, .null])), (q1, .inl (dA 0, 7, .inl (fun _ => 0))), (q2, .inl (dA 0, 7, .inl (fun _ => 0))), (q3, .inl (dA 0, 7, .inl (fun _ => 0))), (q4, .inl (dA 0, 7, .inl (fun _ => 0))), (q5, .inl (dA 0, 7, .inl (fun _ => 0))), (q6, .inl (dA 0, 6, .inl (fun _ => 0))), (q7, .inl (dA 0, 6, .inl (fun _ => 0))), (q8, .inl (dA 0, 6, .inl (fun _ => 0))), (q9, .inl (dA 0, 6, .inl (fun _ => 0)))]) rfl ?_)
  refine k_aload_n dX5_init_76 rfl ?_
  refine k_iconst (v := 3) dX5_init_77 (by decide) ?_
  refine k_newa (atype := .int) (t := 0) (N := 3) (c' := 10) (s' := 62) k_arr_int rfl (fun _ _ h => h) rfl (by decide) (by decide) (by decide) rfl rfl (by decide) (by decide) dX5_init_78 (fun q10 => k_w (ws' := [(h0, .inr (5, [.int 0, .int 0, .int 0, .int 0, .int 0, .int 0, .int 0, .ref q1, .ref q2, .ref q3, .ref q4, .ref q5, .ref q6, .ref q7, .ref q8, .ref q9, .null])), (q1, .inl (dA 0, 7, .inl (fun _ => 0))), (q2, .inl (dA 0, 7, .inl (fun _ => 0))), (q3, .inl (dA 0, 7, .inl (fun _ => 0))), (q4, .inl (dA 0, 7, .inl (fun _ => 0))), (q5, .inl (dA 0, 7, .inl (fun _ => 0))), (q6, .inl (dA 0, 6, .inl (fun _ => 0))), (q7, .inl (dA 0, 6, .inl (fun _ => 0))), (q8, .inl (dA 0, 6, .inl (fun _ => 0))), (q9, .inl (dA 0, 6, .inl (fun _ => 0))), (q10, .inl (dA 0, 3, .inl (fun _ => 0)))]) rfl ?_)
  refine k_putF fl_5_39 fF_5_16 rfl rfl (Nat.le_of_ble_eq_true rfl) dX5_init_80 (k_w (ws' := [(h0, .inr (5, [.int 0, .int 0, .int 0, .int 0, .int 0, .int 0, .int 0, .ref q1, .ref q2, .ref q3, .ref q4, .ref q5, .ref q6, .ref q7, .ref q8, .ref q9, .ref q10])), (q1, .inl (dA 0, 7, .inl (fun _ => 0))), (q2, .inl (dA 0, 7, .inl (fun _ => 0))), (q3, .inl (dA 0, 7, .inl (fun _ => 0))), (q4, .inl (dA 0, 7, .inl (fun _ => 0))), (q5, .inl (dA 0, 7, .inl (fun _ => 0))), (q6, .inl (dA 0, 6, .inl (fun _ => 0))), (q7, .inl (dA 0, 6, .inl (fun _ => 0))), (q8, .inl (dA 0, 6, .inl (fun _ => 0))), (q9, .inl (dA 0, 6, .inl (fun _ => 0))), (q10, .inl (dA 0, 3, .inl (fun _ => 0)))]) rfl ?_)
  refine k_aload_n dX5_init_83 rfl ?_
  refine k_iconst (v := 4) dX5_init_84 (by decide) ?_
  refine k_conV (S := fd_SL) (α := k_al [h0, q1, q2, q3, q4, q5, q6, q7, q8, q9, q10] ρ) (I := fun _ _ => 0) (L := fun _ _ => 0) (As := [.int 4]) (k := 0) (ci := 5) k_alP (c_L_startAnew _ _ _ _) lk_5_42 rfl rfl (by decide) (by decide) rfl (by decide) rfl (by decide) (by decide) dX5_init_85 (fun rv I1 L1 hq => ?_)
  obtain ⟨rfl, -, h1⟩ := hq
  exact k_ret rfl dX5_init_88 ⟨_, I1, L1, rfl, fd_wl_eq.symm, h1⟩
