/-! the model: a day alone, the orders' number, how she lives -/
theorem c_X11_learns (α : Nat → Nat) (I : fdI) (L : fdL) (d : Nat) (hd : d < 7) : Con fd_SM α yX11_learns mX11_learns [.ref (α 0), .int (nI d)] I L (fd_is (some (.int (lnV (mV I) d))) I L) := by
  refine Con.of (by decide) rfl (Nat.le_of_ble_eq_true rfl) ?_
  refine r_aload_n dX11_learns_0 rfl ?_
  refine r_getR rfl rfl fl_11_13 dX11_learns_1 ?_
  refine r_iload_n dX11_learns_4 rfl ?_
  refine r_ialdN rfl dX11_learns_5 (by omega) (by decide) rfl ?_
  refine r_istore_n (lv' := [(2, _), (0, _), (1, _)]) dX11_learns_6 (Nat.le_of_ble_eq_true rfl) rfl ?_
  refine r_iload_n dX11_learns_7 rfl ?_
  refine r_iconst (v := 2) dX11_learns_8 rfl ?_
  refine r_icmp_eq 17 dX11_learns_9 (by decide) (fun h9 => ?_) (fun h9 => ?_)
  · refine r_iconst (v := 0) dX11_learns_17 rfl ?_
    refine r_goto (tgt := 48) dX11_learns_18 (by decide) ?_
    refine r_iret rfl dX11_learns_48 ?_
    refine fd_isi ?_ rfl rfl
    simp only [lnV, mV]
    simp_all
  · refine r_iload_n dX11_learns_12 rfl ?_
    refine r_iconst (v := 5) dX11_learns_13 rfl ?_
    refine r_icmp_ne 21 dX11_learns_14 (by decide) (fun h14 => ?_) (fun h14 => ?_)
    · refine r_iload_n dX11_learns_21 rfl ?_
      refine r_iconst (v := 4) dX11_learns_22 rfl ?_
      refine r_icmp_ne 42 dX11_learns_23 (by decide) (fun h23 => ?_) (fun h23 => ?_)
      · refine r_aload_n dX11_learns_42 rfl ?_
        refine r_getR rfl rfl fl_11_19 dX11_learns_43 ?_
        refine r_iload_n dX11_learns_46 rfl ?_
        refine r_ialdN rfl dX11_learns_47 (by omega) (by decide) rfl ?_
        refine r_iret rfl dX11_learns_48 ?_
        refine fd_isi ?_ rfl rfl
        simp only [lnV, mV]
        simp_all
      · refine r_aload_n dX11_learns_26 rfl ?_
        refine r_getR rfl rfl fl_11_19 dX11_learns_27 ?_
        refine r_iload_n dX11_learns_30 rfl ?_
        refine r_ialdN rfl dX11_learns_31 (by omega) (by decide) rfl ?_
        refine r_aload_n dX11_learns_32 rfl ?_
        refine r_getR rfl rfl fl_11_16 dX11_learns_33 ?_
        refine r_iload_n dX11_learns_36 rfl ?_
        refine r_ialdN rfl dX11_learns_37 (by omega) (by decide) rfl ?_
        refine r_ior dX11_learns_38 ?_
        refine r_goto (tgt := 48) dX11_learns_39 (by decide) ?_
        refine r_iret rfl dX11_learns_48 ?_
        refine fd_isi ?_ rfl rfl
        simp only [lnV, mV]
        simp_all
    · refine r_iconst (v := 0) dX11_learns_17 rfl ?_
      refine r_goto (tgt := 48) dX11_learns_18 (by decide) ?_
      refine r_iret rfl dX11_learns_48 ?_
      refine fd_isi ?_ rfl rfl
      simp only [lnV, mV]
      simp_all
theorem c_X11_asks (α : Nat → Nat) (I : fdI) (L : fdL) (d : Nat) (hd : d < 7) : Con fd_SM α yX11_asks mX11_asks [.ref (α 0), .int (nI d)] I L (fd_is (some (.int (akV (mV I) d))) I L) := by
  refine Con.of (by decide) rfl (Nat.le_of_ble_eq_true rfl) ?_
  refine r_aload_n dX11_asks_0 rfl ?_
  refine r_getR rfl rfl fl_11_13 dX11_asks_1 ?_
  refine r_iload_n dX11_asks_4 rfl ?_
  refine r_ialdN rfl dX11_asks_5 (by omega) (by decide) rfl ?_
  refine r_iconst (v := 5) dX11_asks_6 rfl ?_
  refine r_icmp_ne 14 dX11_asks_7 (by decide) (fun h7 => ?_) (fun h7 => ?_)
  · refine r_aload_n dX11_asks_14 rfl ?_
    refine r_getR rfl rfl fl_11_16 dX11_asks_15 ?_
    refine r_iload_n dX11_asks_18 rfl ?_
    refine r_ialdN rfl dX11_asks_19 (by omega) (by decide) rfl ?_
    refine r_iret rfl dX11_asks_20 ?_
    refine fd_isi ?_ rfl rfl
    simp only [akV, mV]
    simp_all
  · refine r_iconst (v := 0) dX11_asks_10 rfl ?_
    refine r_goto (tgt := 20) dX11_asks_11 (by decide) ?_
    refine r_iret rfl dX11_asks_20 ?_
    refine fd_isi ?_ rfl rfl
    simp only [akV, mV]
    simp_all
theorem c_X11_orders (α : Nat → Nat) (I : fdI) (L : fdL) {n : Nat} (hn : I 0 1 = nI n) (hn7 : 1 ≤ n ∧ n ≤ 7) : Con fd_SM α yX11_orders mX11_orders [.ref (α 0)] I L (fd_is (some (.int (nI (fac n)))) I L) := by
  refine Con.of (by decide) rfl (Nat.le_of_ble_eq_true rfl) ?_
  have loop : ∀ k, k ≤ n → 1 ≤ k → Rn fd_SM α mX11_orders 4 [(2, .int (nI (k + 1))), (1, .int (nI (fac k))), (0, .ref (α 0))] [] I L (fd_is (some (.int (nI (fac n)))) I L) := by
    refine fd_down (fun k hk ih => ?_)
    intro h1
    refine r_iload_n dX11_orders_4 rfl ?_
    refine r_aload_n dX11_orders_5 rfl ?_
    refine r_getV rfl rfl fl_11_93 dX11_orders_6 hn ?_
    refine r_icmp_gt 22 dX11_orders_9 (by decide) (fun h9 => ?_) (fun h9 => ?_)
    · have hh := (nI_ltI (by omega) (by omega)).mp h9
      have e : k = n := by omega
      subst e
      refine r_iload_n dX11_orders_22 rfl ?_
      refine r_iret rfl dX11_orders_23 ?_
      exact fd_isI rfl rfl rfl
    · have hh : ¬ n < k + 1 := fun q => h9 ((nI_ltI (by omega) (by omega)).mpr q)
      refine r_iload_n dX11_orders_12 rfl ?_
      refine r_iload_n dX11_orders_13 rfl ?_
      refine r_imul dX11_orders_14 ?_
      refine r_istore_n (lv' := [(1, _), (2, _), (0, _)]) dX11_orders_15 (Nat.le_of_ble_eq_true rfl) rfl ?_
      refine r_iinc (v := _ + 1) (lv' := [(2, _), (1, _), (0, _)]) dX11_orders_16 rfl rfl (Nat.le_of_ble_eq_true rfl) rfl ?_
      refine r_goto (tgt := 4) dX11_orders_19 (by decide) ?_
      rw [pk_mul, nI_1]
      exact r_keep [2, 1, 0] rfl (ih (by omega) (by omega))
  refine r_iconst (v := 1) dX11_orders_0 rfl ?_
  refine r_istore_n (lv' := [(1, _), (0, _)]) dX11_orders_1 (Nat.le_of_ble_eq_true rfl) rfl ?_
  refine r_iconst (v := 2) dX11_orders_2 rfl ?_
  refine r_istore_n (lv' := [(2, _), (1, _), (0, _)]) dX11_orders_3 (Nat.le_of_ble_eq_true rfl) rfl ?_
  exact r_keep [2, 1, 0] rfl (loop 1 (by omega) (by omega))
