/-! the model: a day alone, the orders' number, how she lives -/
theorem c_X11_learns (α : Nat → Nat) (I : fdI) (L : fdL) (d : Nat) (hd : d < 7) : Con fd_SM α yX11_learns mX11_learns [.ref (α 0), .int (nI d)] I L (fd_is (some (.int (lnV (mV I) d))) I L) := by
  refine Con.of (by decide) rfl (Nat.le_of_ble_eq_true rfl) ?_
  refine r_aload_n dX11_learns_0 rfl ?_
  refine r_getR rfl rfl fl_11_13 dX11_learns_1 ?_
  refine r_iload_n dX11_learns_4 rfl ?_
  refine r_ialdN rfl dX11_learns_5 (by omega) (by omega) rfl ?_
  refine r_istore_n (lv' := [(2, _), (0, _), (1, _)]) dX11_learns_6 (Nat.le_of_ble_eq_true rfl) rfl ?_
  refine r_iload_n dX11_learns_7 rfl ?_
  refine r_iconst (v := 2) dX11_learns_8 rfl ?_
  refine r_icmp_eq 17 dX11_learns_9 (by decide) (fun h9 => ?_) (fun h9 => ?_)
  · refine r_iconst (v := 0) dX11_learns_17 rfl ?_
    refine r_goto (tgt := 48) dX11_learns_18 (by decide) ?_
    refine r_iret rfl dX11_learns_48 ?_
    refine fd_isi ?_ rfl rfl
    simp only [lnV, mV]
    simp_all
  · refine r_iload_n dX11_learns_12 rfl ?_
    refine r_iconst (v := 5) dX11_learns_13 rfl ?_
    refine r_icmp_ne 21 dX11_learns_14 (by decide) (fun h14 => ?_) (fun h14 => ?_)
    · refine r_iload_n dX11_learns_21 rfl ?_
      refine r_iconst (v := 4) dX11_learns_22 rfl ?_
      refine r_icmp_ne 42 dX11_learns_23 (by decide) (fun h23 => ?_) (fun h23 => ?_)
      · refine r_aload_n dX11_learns_42 rfl ?_
        refine r_getR rfl rfl fl_11_19 dX11_learns_43 ?_
        refine r_iload_n dX11_learns_46 rfl ?_
        refine r_ialdN rfl dX11_learns_47 (by omega) (by omega) rfl ?_
        refine r_iret rfl dX11_learns_48 ?_
        refine fd_isi ?_ rfl rfl
        simp only [lnV, mV]
        simp_all
      · refine r_aload_n dX11_learns_26 rfl ?_
        refine r_getR rfl rfl fl_11_19 dX11_learns_27 ?_
        refine r_iload_n dX11_learns_30 rfl ?_
        refine r_ialdN rfl dX11_learns_31 (by omega) (by omega) rfl ?_
        refine r_aload_n dX11_learns_32 rfl ?_
        refine r_getR rfl rfl fl_11_16 dX11_learns_33 ?_
        refine r_iload_n dX11_learns_36 rfl ?_
        refine r_ialdN rfl dX11_learns_37 (by omega) (by omega) rfl ?_
        refine r_ior dX11_learns_38 ?_
        refine r_goto (tgt := 48) dX11_learns_39 (by decide) ?_
        refine r_iret rfl dX11_learns_48 ?_
        refine fd_isi ?_ rfl rfl
        simp only [lnV, mV]
        simp_all
    · refine r_iconst (v := 0) dX11_learns_17 rfl ?_
      refine r_goto (tgt := 48) dX11_learns_18 (by decide) ?_
      refine r_iret rfl dX11_learns_48 ?_
      refine fd_isi ?_ rfl rfl
      simp only [lnV, mV]
      simp_all
theorem c_X11_asks (α : Nat → Nat) (I : fdI) (L : fdL) (d : Nat) (hd : d < 7) : Con fd_SM α yX11_asks mX11_asks [.ref (α 0), .int (nI d)] I L (fd_is (some (.int (akV (mV I) d))) I L) := by
  refine Con.of (by decide) rfl (Nat.le_of_ble_eq_true rfl) ?_
  refine r_aload_n dX11_asks_0 rfl ?_
  refine r_getR rfl rfl fl_11_13 dX11_asks_1 ?_
  refine r_iload_n dX11_asks_4 rfl ?_
  refine r_ialdN rfl dX11_asks_5 (by omega) (by omega) rfl ?_
  refine r_iconst (v := 5) dX11_asks_6 rfl ?_
  refine r_icmp_ne 14 dX11_asks_7 (by decide) (fun h7 => ?_) (fun h7 => ?_)
  · refine r_aload_n dX11_asks_14 rfl ?_
    refine r_getR rfl rfl fl_11_16 dX11_asks_15 ?_
    refine r_iload_n dX11_asks_18 rfl ?_
    refine r_ialdN rfl dX11_asks_19 (by omega) (by omega) rfl ?_
    refine r_iret rfl dX11_asks_20 ?_
    refine fd_isi ?_ rfl rfl
    simp only [akV, mV]
    simp_all
  · refine r_iconst (v := 0) dX11_asks_10 rfl ?_
    refine r_goto (tgt := 20) dX11_asks_11 (by decide) ?_
    refine r_iret rfl dX11_asks_20 ?_
    refine fd_isi ?_ rfl rfl
    simp only [akV, mV]
    simp_all
theorem c_X11_orders (α : Nat → Nat) (I : fdI) (L : fdL) {n : Nat} (hn : I 0 1 = nI n) (hn7 : 1 ≤ n ∧ n ≤ 7) : Con fd_SM α yX11_orders mX11_orders [.ref (α 0)] I L (fd_is (some (.int (nI (fac n)))) I L) := by
  refine Con.of (by decide) rfl (Nat.le_of_ble_eq_true rfl) ?_
  have loop : ∀ k, k ≤ n → 1 ≤ k → Rn fd_SM α mX11_orders 4 [(2, .int (nI (k + 1))), (1, .int (nI (fac k))), (0, .ref (α 0))] [] I L (fd_is (some (.int (nI (fac n)))) I L) := by
    refine fd_down (fun k hk ih => ?_)
    intro h1
    refine r_iload_n dX11_orders_4 rfl ?_
    refine r_aload_n dX11_orders_5 rfl ?_
    refine r_getV rfl rfl fl_11_93 dX11_orders_6 hn ?_
    refine r_icmp_gt 22 dX11_orders_9 (by decide) (fun h9 => ?_) (fun h9 => ?_)
    · have hh := (nI_ltI (by omega) (by omega)).mp h9
      have e : k = n := by omega
      subst e
      refine r_iload_n dX11_orders_22 rfl ?_
      refine r_iret rfl dX11_orders_23 ?_
      exact fd_isI rfl rfl rfl
    · have hh : ¬ n < k + 1 := fun q => h9 ((nI_ltI (by omega) (by omega)).mpr q)
      refine r_iload_n dX11_orders_12 rfl ?_
      refine r_iload_n dX11_orders_13 rfl ?_
      refine r_imul dX11_orders_14 ?_
      refine r_istore_n (lv' := [(1, _), (2, _), (0, _)]) dX11_orders_15 (Nat.le_of_ble_eq_true rfl) rfl ?_
      refine r_iinc (v := _ + 1) (lv' := [(2, _), (1, _), (0, _)]) dX11_orders_16 rfl rfl (Nat.le_of_ble_eq_true rfl) rfl ?_
      refine r_goto (tgt := 4) dX11_orders_19 (by decide) ?_
      rw [pk_mul, nI_1]
      exact r_keep [2, 1, 0] rfl (ih (by omega) (by omega))
  refine r_iconst (v := 1) dX11_orders_0 rfl ?_
  refine r_istore_n (lv' := [(1, _), (0, _)]) dX11_orders_1 (Nat.le_of_ble_eq_true rfl) rfl ?_
  refine r_iconst (v := 2) dX11_orders_2 rfl ?_
  refine r_istore_n (lv' := [(2, _), (1, _), (0, _)]) dX11_orders_3 (Nat.le_of_ble_eq_true rfl) rfl ?_
  exact r_keep [2, 1, 0] rfl (loop 1 (by omega) (by omega))
theorem c_X11_starts (α : Nat → Nat) (I : fdI) (L : fdL) (kr : Nat) (hS : fd_SM[kr]? = some (.inr (.inl (0, 7)))) : Con fd_SM α yX11_starts mX11_starts [.ref (α kr)] I L (fd_vp (fun I' L' => L' = L ∧ (∀ a, a ≠ kr → I' a = I a) ∧ ∀ k, k < 7 → I' kr k = nI k)) := by
  refine Con.of (by decide) rfl (Nat.le_of_ble_eq_true rfl) ?_
  have loop : ∀ k, k ≤ 7 → ∀ I1 : fdI, (∀ a, a ≠ kr → I1 a = I a) → (∀ i, i < k → I1 kr i = nI i) → Rn fd_SM α mX11_starts 2 [(1, .int (nI k)), (0, .ref (α kr))] [] I1 L (fd_vp (fun I' L' => L' = L ∧ (∀ a, a ≠ kr → I' a = I a) ∧ ∀ k, k < 7 → I' kr k = nI k)) := by
    refine fd_down (fun k hk ih => ?_)
    intro I1 h1 h2
    refine r_iload_n dX11_starts_2 rfl ?_
    refine r_bipush (v := 7) dX11_starts_3 rfl ?_
    refine r_icmp_ge 18 dX11_starts_5 (by decide) (fun h5 => ?_) (fun h5 => ?_)
    · have hh := (nI_leI (a := 7) (by omega) (by omega)).mp h5
      have e : k = 7 := by omega
      subst e
      refine r_vret rfl dX11_starts_18 ?_
      exact ⟨rfl, rfl, h1, h2⟩
    · have hh : ¬ 7 ≤ k := fun q => h5 ((nI_leI (a := 7) (by omega) (by omega)).mpr q)
      refine r_aload_n dX11_starts_8 rfl ?_
      refine r_iload_n dX11_starts_9 rfl ?_
      refine r_iload_n dX11_starts_10 rfl ?_
      refine r_iastN hS dX11_starts_11 (by omega) (by omega) ?_
      refine r_iinc (v := _ + 1) (lv' := [(1, _), (0, _)]) dX11_starts_12 rfl rfl (Nat.le_of_ble_eq_true rfl) rfl ?_
      refine r_goto (tgt := 2) dX11_starts_15 (by decide) ?_
      rw [nI_1]
      refine r_keep [1, 0] rfl (ih (by omega) _ (fun a ha => by rw [fd_up_cell ha]; exact h1 a ha) (fun i hi => ?_))
      rw [fd_up_at]
      split
      · next e => rw [e]
      · exact h2 i (by omega)
  refine r_iconst (v := 0) dX11_starts_0 rfl ?_
  refine r_istore_n (lv' := [(1, _), (0, _)]) dX11_starts_1 (Nat.le_of_ble_eq_true rfl) rfl ?_
  exact r_keep [1, 0] rfl (loop 0 (by omega) I (fun _ _ => rfl) (fun i hi => by omega))
/-- how she lives the order p -/
def lvI (I I' : fdI) (n nn : Nat) (p : Nat → Nat) (B : Nat → Int32) : Prop :=
  (∀ a, a ≠ 0 → a ≠ 13 → a ≠ 14 → a ≠ 15 → a ≠ 16 → I' a = I a) ∧ (∀ j, j ≠ 22 → I' 0 j = I 0 j) ∧ (∀ k, k < n → I' 16 (p k) = nI k) ∧ (∀ k, k < n → B (p k) = ahV (mV I) p k) ∧ (∀ d, d < n → I' 15 d = ktV (mV I) nn B n d ∧ I' 14 d = rdV (mV I) nn (ktV (mV I) nn B n) d) ∧ I' 0 22 = nI (cnN (wlB (mV I) (ktV (mV I) nn B n)) n)
set_option maxHeartbeats 1000000 in
theorem c_X11_lives (α : Nat → Nat) (I : fdI) (L : fdL) (kr : Nat) (hS : fd_SM[kr]? = some (.inr (.inl (0, 7)))) (hkr : kr = 6 ∨ kr = 17) {n nn : Nat} {p : Nat → Nat} (hn : I 0 1 = nI n) (hn7 : 1 ≤ n ∧ n ≤ 7) (hnn : I 0 7 = nI nn) (hn6 : nn ≤ 6) (hnd : ∀ k, k < nn → dayP (I 7 k) n) (hrow : ∀ k, k < n → I kr k = nI (p k)) (hp : isP p n) :
    Con fd_SM α yX11_lives mX11_lives [.ref (α 0), .ref (α kr)] I L (fd_vp (fun I' L' => L' = L ∧ ∃ B, lvI I I' n nn p B)) := by
  have k13 : kr ≠ 13 := by rcases hkr with h | h <;> omega
  have k14 : kr ≠ 14 := by rcases hkr with h | h <;> omega
  have k15 : kr ≠ 15 := by rcases hkr with h | h <;> omega
  have k16 : kr ≠ 16 := by rcases hkr with h | h <;> omega
  have k0 : kr ≠ 0 := by rcases hkr with h | h <;> omega
  have hp7 : ∀ k, k < n → p k < 7 := fun k hk => by have := hp.1 k hk; omega
  refine Con.of (by decide) rfl (Nat.le_of_ble_eq_true rfl) ?_
  -- the days by date
  have loop2 : ∀ B : Nat → Int32, (∀ k, k < n → B (p k) = ahV (mV I) p k) → ∀ d, d ≤ n → ∀ I2 : fdI, (∀ a, a ≠ 0 → a ≠ 13 → a ≠ 14 → a ≠ 15 → a ≠ 16 → I2 a = I a) → (∀ j, j ≠ 22 → I2 0 j = I 0 j) → (∀ k, k < n → I2 16 (p k) = nI k) → I2 13 = B →
      (∀ e, e < d → I2 15 e = ktV (mV I) nn B n e ∧ I2 14 e = rdV (mV I) nn (ktV (mV I) nn B n) e) → I2 0 22 = nI (cnN (wlB (mV I) (ktV (mV I) nn B n)) d) →
      Rn fd_SM α mX11_lives 53 [(3, .int (nI d)), (0, .ref (α 0)), (1, .ref (α kr))] [] I2 L (fd_vp (fun I' L' => L' = L ∧ ∃ B, lvI I I' n nn p B)) := by
    intro B hB
    refine fd_down (fun d hd ih => ?_)
    intro I2 g1 g2 g3 g4 g5 g6
    have gd : I2 0 1 = nI n := by rw [g2 1 (by decide)]; exact hn
    have gn : I2 0 7 = nI nn := by rw [g2 7 (by decide)]; exact hnn
    have gk : I2 2 = I 2 := g1 2 (by decide) (by decide) (by decide) (by decide) (by decide)
    refine r_iload_n dX11_lives_53 rfl ?_
    refine r_aload_n dX11_lives_54 rfl ?_
    refine r_getV rfl rfl fl_11_93 dX11_lives_55 gd ?_
    refine r_icmp_ge 237 dX11_lives_58 (by decide) (fun h58 => ?_) (fun h58 => ?_)
    · have hh := (nI_leI (by omega) (by omega)).mp h58
      have e : d = n := by omega
      subst e
      refine r_vret rfl dX11_lives_237 ?_
      exact ⟨rfl, rfl, B, g1, g2, g3, hB, fun e he => g5 e he, g6⟩
    · skip
      have hh : d < n := Nat.lt_of_not_le fun q => h58 ((nI_leI (by omega) (by omega)).mpr q)
      have hr : rdV (mV I) nn (I2 15) d = rdV (mV I) nn (ktV (mV I) nn B n) d := rdV_congr fun e he => (g5 e he).1
      have after : Rn fd_SM α mX11_lives 177 [(4, .int (rdV (mV I) nn (I2 15) d)), (3, .int (nI d)), (0, .ref (α 0)), (1, .ref (α kr))] [] I2 L (fd_vp (fun I' L' => L' = L ∧ ∃ B, lvI I I' n nn p B)) := by
        rw [hr]
        have join : ∀ (b : Bool) (I4 : fdI), b = wlB (mV I) (ktV (mV I) nn B n) d → (∀ a, a ≠ 0 → a ≠ 13 → a ≠ 14 → a ≠ 15 → a ≠ 16 → I4 a = I a) → (∀ j, j ≠ 22 → I4 0 j = I 0 j) → (∀ k, k < n → I4 16 (p k) = nI k) → I4 13 = B → (∀ e, e < d + 1 → I4 15 e = ktV (mV I) nn B n e ∧ I4 14 e = rdV (mV I) nn (ktV (mV I) nn B n) e) → I4 0 22 = nI (cnN (wlB (mV I) (ktV (mV I) nn B n)) d) →
            Rn fd_SM α mX11_lives 227 [(3, .int (nI d)), (0, .ref (α 0)), (1, .ref (α kr))] [.int (if b then 1 else 0), .int (nI (cnN (wlB (mV I) (ktV (mV I) nn B n)) d)), .ref (α 0)] I4 L (fd_vp (fun I' L' => L' = L ∧ ∃ B, lvI I I' n nn p B)) := by
          intro b I4 hb f1 f2 f3 f4 f5 f6
          refine r_iadd dX11_lives_227 ?_
          refine r_putI rfl rfl fl_11_164 fw_11_22 dX11_lives_228 ?_
          refine r_iinc (v := _ + 1) (lv' := [(3, _), (0, _), (1, _)]) dX11_lives_231 rfl rfl (Nat.le_of_ble_eq_true rfl) rfl ?_
          refine r_goto (tgt := 53) dX11_lives_234 (by decide) ?_
          rw [nI_1]
          refine r_keep [3, 0, 1] rfl (ih hh _ (fun a a0 a1 a2 a3 a4 => by rw [fd_up_cell a0]; exact f1 a a0 a1 a2 a3 a4) (fun j hj => by rw [fd_up_pl hj]; exact f2 j hj) (fun k hk => by rw [fd_up_ne (by decide)]; exact f3 k hk) (by rw [fd_up_cell (by decide)]; exact f4) (fun e he => by rw [fd_up_ne (by decide), fd_up_ne (by decide)]; exact f5 e he) ?_)
          rw [fd_up_same, hb]
          show _ = nI (cnN _ d + _)
          split
          · exact nI_1 _
          · rw [Nat.add_zero]; exact Int32.add_zero _
        have ek : ∀ c, c = 2 ∨ c = 3 → (fd_up (fd_up I2 14 d (rdV (mV I) nn (ktV (mV I) nn B n) d)) 15 d (B d ||| rdV (mV I) nn (ktV (mV I) nn B n) d)) c = I c := by
          intro c hc
          rw [fd_up_cell (by omega), fd_up_cell (by omega)]
          exact g1 c (by omega) (by omega) (by omega) (by omega) (by omega)
        have ea : akV (mV (fd_up (fd_up I2 14 d (rdV (mV I) nn (ktV (mV I) nn B n) d)) 15 d (B d ||| rdV (mV I) nn (ktV (mV I) nn B n) d))) d = akV (mV I) d := akV_congr (congrFun (ek 2 (Or.inl rfl)) d) (congrFun (ek 3 (Or.inr rfl)) d)
        have jn : ∀ b : Bool, b = wlB (mV I) (ktV (mV I) nn B n) d → Rn fd_SM α mX11_lives 227 [(3, .int (nI d)), (0, .ref (α 0)), (1, .ref (α kr))] [.int (if b then 1 else 0), .int (nI (cnN (wlB (mV I) (ktV (mV I) nn B n)) d)), .ref (α 0)] (fd_up (fd_up I2 14 d (rdV (mV I) nn (ktV (mV I) nn B n) d)) 15 d (B d ||| rdV (mV I) nn (ktV (mV I) nn B n) d)) L (fd_vp (fun I' L' => L' = L ∧ ∃ B, lvI I I' n nn p B)) := by
          intro b hb
          refine join b _ hb (fun a a0 a1 a2 a3 a4 => by rw [fd_up_cell a3, fd_up_cell a2]; exact g1 a a0 a1 a2 a3 a4) (fun j hj => by rw [fd_up_ne (by decide), fd_up_ne (by decide)]; exact g2 j hj) (fun k hk => by rw [fd_up_ne (by decide), fd_up_ne (by decide)]; exact g3 k hk) (by rw [fd_up_cell (by decide), fd_up_cell (by decide)]; exact g4) (fun e he => ?_) (by rw [fd_up_ne (by decide), fd_up_ne (by decide)]; exact g6)
          rw [fd_up_ne (k := 15) (a := 14) (by decide), fd_up_at, fd_up_at]
          by_cases q : e = d
          · subst q
            rw [if_pos rfl, if_pos rfl]
            exact ⟨(ktV_n hh).symm, rfl⟩
          · rw [if_neg q, if_neg q, fd_up_ne (by decide)]
            exact g5 e (by omega)
        refine r_aload_n dX11_lives_177 rfl ?_
        refine r_getR rfl rfl fl_11_49 dX11_lives_178 ?_
        refine r_iload_n dX11_lives_181 rfl ?_
        refine r_iload dX11_lives_182 rfl ?_
        refine r_iastN rfl dX11_lives_184 (by omega) (by omega) ?_
        refine r_aload_n dX11_lives_185 rfl ?_
        refine r_getR rfl rfl fl_11_52 dX11_lives_186 ?_
        refine r_iload_n dX11_lives_189 rfl ?_
        refine r_aload_n dX11_lives_190 rfl ?_
        refine r_getR rfl rfl fl_11_46 dX11_lives_191 ?_
        refine r_iload_n dX11_lives_194 rfl ?_
        refine r_ialdN rfl dX11_lives_195 (by omega) (by omega) (by rw [fd_up_ne (by decide), g4]) ?_
        refine r_iload dX11_lives_196 rfl ?_
        refine r_ior dX11_lives_198 ?_
        refine r_iastN rfl dX11_lives_199 (by omega) (by omega) ?_
        refine r_aload_n dX11_lives_200 rfl ?_
        refine r_dup dX11_lives_201 rfl ?_
        refine r_getV rfl rfl fl_11_164 dX11_lives_202 (Eq.trans (by rw [fd_up_ne (by decide), fd_up_ne (by decide)]) g6) ?_
        refine r_aload_n dX11_lives_205 rfl ?_
        refine r_iload_n dX11_lives_206 rfl ?_
        refine r_cVr (As := [_]) (c_X11_asks α _ _ _ (by omega)) lk_11_167 rfl rfl (by decide) (by decide) rfl rfl (Nat.le_of_ble_eq_true rfl) dX11_lives_207 ?_
        refine r_aload_n dX11_lives_210 rfl ?_
        refine r_getR rfl rfl fl_11_52 dX11_lives_211 ?_
        refine r_iload_n dX11_lives_214 rfl ?_
        refine r_ialdN rfl dX11_lives_215 (by omega) (by omega) (Eq.trans fd_up_same (ktV_n hh).symm) ?_
        refine r_iconst (v := (-1)) dX11_lives_216 rfl ?_
        refine r_ixor dX11_lives_217 ?_
        refine r_iand dX11_lives_218 ?_
        refine r_if_ne 226 dX11_lives_219 (by decide) (fun h219 => ?_) (fun h219 => ?_)
        · rw [ea] at h219
          refine r_iconst (v := 0) dX11_lives_226 rfl ?_
          first
            | exact r_keep [3, 0, 1] rfl (jn true (by simp only [wlB]; exact (decide_eq_true h219).symm))
            | exact r_keep [3, 0, 1] rfl (jn false (by simp only [wlB]; exact (decide_eq_false h219).symm))
        · rw [ea] at h219
          refine r_iconst (v := 1) dX11_lives_222 rfl ?_
          refine r_goto (tgt := 227) dX11_lives_223 (by decide) ?_
          first
            | exact r_keep [3, 0, 1] rfl (jn true (by simp only [wlB]; exact (decide_eq_true h219).symm))
            | exact r_keep [3, 0, 1] rfl (jn false (by simp only [wlB]; exact (decide_eq_false h219).symm))
      have none3 : rdB (mV I) d = false → Rn fd_SM α mX11_lives 67 [(5, .int 0), (4, .int 0), (3, .int (nI d)), (0, .ref (α 0)), (1, .ref (α kr))] [] I2 L (fd_vp (fun I' L' => L' = L ∧ ∃ B, lvI I I' n nn p B)) := by
        intro hrd
        have e0 : rdV (mV I) nn (I2 15) d = 0 := by simp [rdV, hrd]
        have hk14 : I 2 d = 1 ∨ I 2 d = 4 := by
          simp [rdB, mV] at hrd
          by_cases q : I 2 d = 1
          · exact Or.inl q
          · exact Or.inr (hrd q)
        rw [e0] at after
        refine r_iload dX11_lives_67 rfl ?_
        refine r_aload_n dX11_lives_69 rfl ?_
        refine r_getV rfl rfl fl_11_103 dX11_lives_70 gn ?_
        refine r_icmp_ge 177 dX11_lives_73 (by decide) (fun h73 => ?_) (fun h73 => ?_)
        · exact r_keep [4, 3, 0, 1] rfl after
        · refine r_aload_n dX11_lives_76 rfl ?_
          refine r_getR rfl rfl fl_11_13 dX11_lives_77 ?_
          refine r_iload_n dX11_lives_80 rfl ?_
          refine r_ialdN rfl dX11_lives_81 (by omega) (by omega) (by rw [gk]) ?_
          refine r_iconst (v := 1) dX11_lives_82 rfl ?_
          refine r_icmp_eq 177 dX11_lives_83 (by decide) (fun h83 => ?_) (fun h83 => ?_)
          · exact r_keep [4, 3, 0, 1] rfl after
          · refine r_aload_n dX11_lives_86 rfl ?_
            refine r_getR rfl rfl fl_11_13 dX11_lives_87 ?_
            refine r_iload_n dX11_lives_90 rfl ?_
            refine r_ialdN rfl dX11_lives_91 (by omega) (by omega) (by rw [gk]) ?_
            refine r_iconst (v := 4) dX11_lives_92 rfl ?_
            refine r_icmp_eq 177 dX11_lives_93 (by decide) (fun h93 => ?_) (fun h93 => ?_)
            · exact r_keep [4, 3, 0, 1] rfl after
            · exact absurd hk14 (fun q => q.elim h83 h93)
      -- the notes
      have loop3 : rdB (mV I) d = true → ∀ k, k ≤ nn → Rn fd_SM α mX11_lives 67 [(5, .int (nI k)), (4, .int (orN (ntV (mV I) (I2 15) d) k)), (3, .int (nI d)), (0, .ref (α 0)), (1, .ref (α kr))] [] I2 L (fd_vp (fun I' L' => L' = L ∧ ∃ B, lvI I I' n nn p B)) := by
        intro hrd
        have e0 : rdV (mV I) nn (I2 15) d = orN (ntV (mV I) (I2 15) d) nn := by simp only [rdV, hrd, if_true]
        have hk1 : ¬ I 2 d = 1 := by intro q; simp [rdB, mV, q] at hrd
        have hk4 : ¬ I 2 d = 4 := by intro q; simp [rdB, mV, q] at hrd
        refine fd_down (fun k hk ih3 => ?_)
        have join : ∀ v : Int32, v = ntV (mV I) (I2 15) d k → k < nn → Rn fd_SM α mX11_lives 168 [(5, .int (nI k)), (3, .int (nI d)), (0, .ref (α 0)), (1, .ref (α kr))] [.int v, .int (orN (ntV (mV I) (I2 15) d) k)] I2 L (fd_vp (fun I' L' => L' = L ∧ ∃ B, lvI I I' n nn p B)) := by
          intro v hv hkn
          subst hv
          refine r_ior dX11_lives_168 ?_
          refine r_istore (lv' := [(4, _), (5, _), (3, _), (0, _), (1, _)]) dX11_lives_169 (Nat.le_of_ble_eq_true rfl) rfl ?_
          refine r_iinc (v := _ + 1) (lv' := [(5, _), (4, _), (3, _), (0, _), (1, _)]) dX11_lives_171 rfl rfl (Nat.le_of_ble_eq_true rfl) rfl ?_
          refine r_goto (tgt := 67) dX11_lives_174 (by decide) ?_
          rw [nI_1]
          exact r_keep [5, 4, 3, 0, 1] rfl (ih3 hkn)
        refine r_iload dX11_lives_67 rfl ?_
        refine r_aload_n dX11_lives_69 rfl ?_
        refine r_getV rfl rfl fl_11_103 dX11_lives_70 gn ?_
        refine r_icmp_ge 177 dX11_lives_73 (by decide) (fun h73 => ?_) (fun h73 => ?_)
        · have hq := (nI_leI (by omega) (by omega)).mp h73
          have e : k = nn := by omega
          subst e
          rw [← e0]
          exact r_keep [4, 3, 0, 1] rfl after
        · have hkn : k < nn := Nat.lt_of_not_le fun q => h73 ((nI_leI (by omega) (by omega)).mpr q)
          obtain ⟨j, hj, ej⟩ := dayP_nI (hnd k hkn)
          have ej2 : I2 7 k = nI j := by rw [g1 7 (by decide) (by decide) (by decide) (by decide) (by decide)]; exact ej
          have hnt : ntV (mV I) (I2 15) d k = if j < d ∧ wrB (mV I) j = true then I2 15 j &&& 1 <<< (I2 8 k &&& 31) else 0 := by
            rw [g1 8 (by decide) (by decide) (by decide) (by decide) (by decide)]
            simp only [ntV]
            rw [show mV I 6 k = nI j from ej, nI_clamp (by omega)]
            rfl
          have w3 : I 2 j = 3 → wrB (mV I) j = false := by intro q; simp [wrB, mV, q]
          have w5 : I 2 j = 5 → wrB (mV I) j = false := by intro q; simp [wrB, mV, q]
          have wt : ¬ I 2 j = 3 → ¬ I 2 j = 5 → wrB (mV I) j = true := by intro q q2; simp [wrB, mV, q, q2]
          refine r_aload_n dX11_lives_76 rfl ?_
          refine r_getR rfl rfl fl_11_13 dX11_lives_77 ?_
          refine r_iload_n dX11_lives_80 rfl ?_
          refine r_ialdN rfl dX11_lives_81 (by omega) (by omega) (by rw [gk]) ?_
          refine r_iconst (v := 1) dX11_lives_82 rfl ?_
          refine r_icmp_eq 177 dX11_lives_83 (by decide) (fun h83 => ?_) (fun h83 => ?_)
          · exact absurd h83 hk1
          · refine r_aload_n dX11_lives_86 rfl ?_
            refine r_getR rfl rfl fl_11_13 dX11_lives_87 ?_
            refine r_iload_n dX11_lives_90 rfl ?_
            refine r_ialdN rfl dX11_lives_91 (by omega) (by omega) (by rw [gk]) ?_
            refine r_iconst (v := 4) dX11_lives_92 rfl ?_
            refine r_icmp_eq 177 dX11_lives_93 (by decide) (fun h93 => ?_) (fun h93 => ?_)
            · exact absurd h93 hk4
            · refine r_aload_n dX11_lives_96 rfl ?_
              refine r_getR rfl rfl fl_11_28 dX11_lives_97 ?_
              refine r_iload dX11_lives_100 rfl ?_
              refine r_ialdN rfl dX11_lives_102 (by omega) (by omega) ej2 ?_
              refine r_istore (lv' := [(6, _), (5, _), (4, _), (3, _), (0, _), (1, _)]) dX11_lives_103 (Nat.le_of_ble_eq_true rfl) rfl ?_
              refine r_aload_n dX11_lives_105 rfl ?_
              refine r_getR rfl rfl fl_11_13 dX11_lives_106 ?_
              refine r_iload dX11_lives_109 rfl ?_
              refine r_ialdN rfl dX11_lives_111 (by omega) (by omega) (by rw [gk]) ?_
              refine r_iconst (v := 3) dX11_lives_112 rfl ?_
              refine r_icmp_eq 131 dX11_lives_113 (by decide) (fun h113 => ?_) (fun h113 => ?_)
              · refine r_iconst (v := 0) dX11_lives_131 rfl ?_
                refine r_istore (lv' := [(7, _), (6, _), (5, _), (4, _), (3, _), (0, _), (1, _)]) dX11_lives_132 (Nat.le_of_ble_eq_true rfl) rfl ?_
                refine r_iload dX11_lives_134 rfl ?_
                refine r_iload dX11_lives_136 rfl ?_
                refine r_iload_n dX11_lives_138 rfl ?_
                refine r_icmp_ge 167 dX11_lives_139 (by decide) (fun h139 => ?_) (fun h139 => ?_)
                · refine r_iconst (v := 0) dX11_lives_167 rfl ?_
                  first
                    | exact absurd h144 (by decide)
                    | exact r_keep [5, 3, 0, 1] rfl (join _ (by rw [hnt, if_neg (fun q => absurd ((nI_leI (by omega) (by omega)).mp h139) (by omega))]) hkn)
                    | exact r_keep [5, 3, 0, 1] rfl (join _ (by rw [hnt, if_neg (fun q => by rw [w3 h113] at q; cases q.2)]) hkn)
                    | exact r_keep [5, 3, 0, 1] rfl (join _ (by rw [hnt, if_neg (fun q => by rw [w5 h124] at q; cases q.2)]) hkn)
                    | exact r_keep [5, 3, 0, 1] rfl (join _ (by rw [hnt, if_pos ⟨Nat.lt_of_not_le fun q => h139 ((nI_leI (by omega) (by omega)).mpr q), wt h113 h124⟩]) hkn)
                · refine r_iload dX11_lives_142 rfl ?_
                  refine r_if_eq 167 dX11_lives_144 (by decide) (fun h144 => ?_) (fun h144 => ?_)
                  · refine r_iconst (v := 0) dX11_lives_167 rfl ?_
                    first
                      | exact absurd h144 (by decide)
                      | exact r_keep [5, 3, 0, 1] rfl (join _ (by rw [hnt, if_neg (fun q => absurd ((nI_leI (by omega) (by omega)).mp h139) (by omega))]) hkn)
                      | exact r_keep [5, 3, 0, 1] rfl (join _ (by rw [hnt, if_neg (fun q => by rw [w3 h113] at q; cases q.2)]) hkn)
                      | exact r_keep [5, 3, 0, 1] rfl (join _ (by rw [hnt, if_neg (fun q => by rw [w5 h124] at q; cases q.2)]) hkn)
                      | exact r_keep [5, 3, 0, 1] rfl (join _ (by rw [hnt, if_pos ⟨Nat.lt_of_not_le fun q => h139 ((nI_leI (by omega) (by omega)).mpr q), wt h113 h124⟩]) hkn)
                  · refine r_aload_n dX11_lives_147 rfl ?_
                    refine r_getR rfl rfl fl_11_52 dX11_lives_148 ?_
                    refine r_iload dX11_lives_151 rfl ?_
                    refine r_ialdN rfl dX11_lives_153 (by omega) (by omega) rfl ?_
                    refine r_iconst (v := 1) dX11_lives_154 rfl ?_
                    refine r_aload_n dX11_lives_155 rfl ?_
                    refine r_getR rfl rfl fl_11_31 dX11_lives_156 ?_
                    refine r_iload dX11_lives_159 rfl ?_
                    refine r_ialdN rfl dX11_lives_161 (by omega) (by omega) rfl ?_
                    refine r_ishl dX11_lives_162 ?_
                    refine r_iand dX11_lives_163 ?_
                    refine r_goto (tgt := 168) dX11_lives_164 (by decide) ?_
                    first
                      | exact absurd h144 (by decide)
                      | exact r_keep [5, 3, 0, 1] rfl (join _ (by rw [hnt, if_neg (fun q => absurd ((nI_leI (by omega) (by omega)).mp h139) (by omega))]) hkn)
                      | exact r_keep [5, 3, 0, 1] rfl (join _ (by rw [hnt, if_neg (fun q => by rw [w3 h113] at q; cases q.2)]) hkn)
                      | exact r_keep [5, 3, 0, 1] rfl (join _ (by rw [hnt, if_neg (fun q => by rw [w5 h124] at q; cases q.2)]) hkn)
                      | exact r_keep [5, 3, 0, 1] rfl (join _ (by rw [hnt, if_pos ⟨Nat.lt_of_not_le fun q => h139 ((nI_leI (by omega) (by omega)).mpr q), wt h113 h124⟩]) hkn)
              · refine r_aload_n dX11_lives_116 rfl ?_
                refine r_getR rfl rfl fl_11_13 dX11_lives_117 ?_
                refine r_iload dX11_lives_120 rfl ?_
                refine r_ialdN rfl dX11_lives_122 (by omega) (by omega) (by rw [gk]) ?_
                refine r_iconst (v := 5) dX11_lives_123 rfl ?_
                refine r_icmp_eq 131 dX11_lives_124 (by decide) (fun h124 => ?_) (fun h124 => ?_)
                · refine r_iconst (v := 0) dX11_lives_131 rfl ?_
                  refine r_istore (lv' := [(7, _), (6, _), (5, _), (4, _), (3, _), (0, _), (1, _)]) dX11_lives_132 (Nat.le_of_ble_eq_true rfl) rfl ?_
                  refine r_iload dX11_lives_134 rfl ?_
                  refine r_iload dX11_lives_136 rfl ?_
                  refine r_iload_n dX11_lives_138 rfl ?_
                  refine r_icmp_ge 167 dX11_lives_139 (by decide) (fun h139 => ?_) (fun h139 => ?_)
                  · refine r_iconst (v := 0) dX11_lives_167 rfl ?_
                    first
                      | exact absurd h144 (by decide)
                      | exact r_keep [5, 3, 0, 1] rfl (join _ (by rw [hnt, if_neg (fun q => absurd ((nI_leI (by omega) (by omega)).mp h139) (by omega))]) hkn)
                      | exact r_keep [5, 3, 0, 1] rfl (join _ (by rw [hnt, if_neg (fun q => by rw [w3 h113] at q; cases q.2)]) hkn)
                      | exact r_keep [5, 3, 0, 1] rfl (join _ (by rw [hnt, if_neg (fun q => by rw [w5 h124] at q; cases q.2)]) hkn)
                      | exact r_keep [5, 3, 0, 1] rfl (join _ (by rw [hnt, if_pos ⟨Nat.lt_of_not_le fun q => h139 ((nI_leI (by omega) (by omega)).mpr q), wt h113 h124⟩]) hkn)
                  · refine r_iload dX11_lives_142 rfl ?_
                    refine r_if_eq 167 dX11_lives_144 (by decide) (fun h144 => ?_) (fun h144 => ?_)
                    · refine r_iconst (v := 0) dX11_lives_167 rfl ?_
                      first
                        | exact absurd h144 (by decide)
                        | exact r_keep [5, 3, 0, 1] rfl (join _ (by rw [hnt, if_neg (fun q => absurd ((nI_leI (by omega) (by omega)).mp h139) (by omega))]) hkn)
                        | exact r_keep [5, 3, 0, 1] rfl (join _ (by rw [hnt, if_neg (fun q => by rw [w3 h113] at q; cases q.2)]) hkn)
                        | exact r_keep [5, 3, 0, 1] rfl (join _ (by rw [hnt, if_neg (fun q => by rw [w5 h124] at q; cases q.2)]) hkn)
                        | exact r_keep [5, 3, 0, 1] rfl (join _ (by rw [hnt, if_pos ⟨Nat.lt_of_not_le fun q => h139 ((nI_leI (by omega) (by omega)).mpr q), wt h113 h124⟩]) hkn)
                    · refine r_aload_n dX11_lives_147 rfl ?_
                      refine r_getR rfl rfl fl_11_52 dX11_lives_148 ?_
                      refine r_iload dX11_lives_151 rfl ?_
                      refine r_ialdN rfl dX11_lives_153 (by omega) (by omega) rfl ?_
                      refine r_iconst (v := 1) dX11_lives_154 rfl ?_
                      refine r_aload_n dX11_lives_155 rfl ?_
                      refine r_getR rfl rfl fl_11_31 dX11_lives_156 ?_
                      refine r_iload dX11_lives_159 rfl ?_
                      refine r_ialdN rfl dX11_lives_161 (by omega) (by omega) rfl ?_
                      refine r_ishl dX11_lives_162 ?_
                      refine r_iand dX11_lives_163 ?_
                      refine r_goto (tgt := 168) dX11_lives_164 (by decide) ?_
                      first
                        | exact absurd h144 (by decide)
                        | exact r_keep [5, 3, 0, 1] rfl (join _ (by rw [hnt, if_neg (fun q => absurd ((nI_leI (by omega) (by omega)).mp h139) (by omega))]) hkn)
                        | exact r_keep [5, 3, 0, 1] rfl (join _ (by rw [hnt, if_neg (fun q => by rw [w3 h113] at q; cases q.2)]) hkn)
                        | exact r_keep [5, 3, 0, 1] rfl (join _ (by rw [hnt, if_neg (fun q => by rw [w5 h124] at q; cases q.2)]) hkn)
                        | exact r_keep [5, 3, 0, 1] rfl (join _ (by rw [hnt, if_pos ⟨Nat.lt_of_not_le fun q => h139 ((nI_leI (by omega) (by omega)).mpr q), wt h113 h124⟩]) hkn)
                · refine r_iconst (v := 1) dX11_lives_127 rfl ?_
                  refine r_goto (tgt := 132) dX11_lives_128 (by decide) ?_
                  refine r_istore (lv' := [(7, _), (6, _), (5, _), (4, _), (3, _), (0, _), (1, _)]) dX11_lives_132 (Nat.le_of_ble_eq_true rfl) rfl ?_
                  refine r_iload dX11_lives_134 rfl ?_
                  refine r_iload dX11_lives_136 rfl ?_
                  refine r_iload_n dX11_lives_138 rfl ?_
                  refine r_icmp_ge 167 dX11_lives_139 (by decide) (fun h139 => ?_) (fun h139 => ?_)
                  · refine r_iconst (v := 0) dX11_lives_167 rfl ?_
                    first
                      | exact absurd h144 (by decide)
                      | exact r_keep [5, 3, 0, 1] rfl (join _ (by rw [hnt, if_neg (fun q => absurd ((nI_leI (by omega) (by omega)).mp h139) (by omega))]) hkn)
                      | exact r_keep [5, 3, 0, 1] rfl (join _ (by rw [hnt, if_neg (fun q => by rw [w3 h113] at q; cases q.2)]) hkn)
                      | exact r_keep [5, 3, 0, 1] rfl (join _ (by rw [hnt, if_neg (fun q => by rw [w5 h124] at q; cases q.2)]) hkn)
                      | exact r_keep [5, 3, 0, 1] rfl (join _ (by rw [hnt, if_pos ⟨Nat.lt_of_not_le fun q => h139 ((nI_leI (by omega) (by omega)).mpr q), wt h113 h124⟩]) hkn)
                  · refine r_iload dX11_lives_142 rfl ?_
                    refine r_if_eq 167 dX11_lives_144 (by decide) (fun h144 => ?_) (fun h144 => ?_)
                    · refine r_iconst (v := 0) dX11_lives_167 rfl ?_
                      first
                        | exact absurd h144 (by decide)
                        | exact r_keep [5, 3, 0, 1] rfl (join _ (by rw [hnt, if_neg (fun q => absurd ((nI_leI (by omega) (by omega)).mp h139) (by omega))]) hkn)
                        | exact r_keep [5, 3, 0, 1] rfl (join _ (by rw [hnt, if_neg (fun q => by rw [w3 h113] at q; cases q.2)]) hkn)
                        | exact r_keep [5, 3, 0, 1] rfl (join _ (by rw [hnt, if_neg (fun q => by rw [w5 h124] at q; cases q.2)]) hkn)
                        | exact r_keep [5, 3, 0, 1] rfl (join _ (by rw [hnt, if_pos ⟨Nat.lt_of_not_le fun q => h139 ((nI_leI (by omega) (by omega)).mpr q), wt h113 h124⟩]) hkn)
                    · refine r_aload_n dX11_lives_147 rfl ?_
                      refine r_getR rfl rfl fl_11_52 dX11_lives_148 ?_
                      refine r_iload dX11_lives_151 rfl ?_
                      refine r_ialdN rfl dX11_lives_153 (by omega) (by omega) rfl ?_
                      refine r_iconst (v := 1) dX11_lives_154 rfl ?_
                      refine r_aload_n dX11_lives_155 rfl ?_
                      refine r_getR rfl rfl fl_11_31 dX11_lives_156 ?_
                      refine r_iload dX11_lives_159 rfl ?_
                      refine r_ialdN rfl dX11_lives_161 (by omega) (by omega) rfl ?_
                      refine r_ishl dX11_lives_162 ?_
                      refine r_iand dX11_lives_163 ?_
                      refine r_goto (tgt := 168) dX11_lives_164 (by decide) ?_
                      first
                        | exact absurd h144 (by decide)
                        | exact r_keep [5, 3, 0, 1] rfl (join _ (by rw [hnt, if_neg (fun q => absurd ((nI_leI (by omega) (by omega)).mp h139) (by omega))]) hkn)
                        | exact r_keep [5, 3, 0, 1] rfl (join _ (by rw [hnt, if_neg (fun q => by rw [w3 h113] at q; cases q.2)]) hkn)
                        | exact r_keep [5, 3, 0, 1] rfl (join _ (by rw [hnt, if_neg (fun q => by rw [w5 h124] at q; cases q.2)]) hkn)
                        | exact r_keep [5, 3, 0, 1] rfl (join _ (by rw [hnt, if_pos ⟨Nat.lt_of_not_le fun q => h139 ((nI_leI (by omega) (by omega)).mpr q), wt h113 h124⟩]) hkn)
      refine r_iconst (v := 0) dX11_lives_61 rfl ?_
      refine r_istore (lv' := [(4, _), (3, _), (0, _), (1, _)]) dX11_lives_62 (Nat.le_of_ble_eq_true rfl) rfl ?_
      refine r_iconst (v := 0) dX11_lives_64 rfl ?_
      refine r_istore (lv' := [(5, _), (4, _), (3, _), (0, _), (1, _)]) dX11_lives_65 (Nat.le_of_ble_eq_true rfl) rfl ?_
      cases hrd : rdB (mV I) d with
      | true => exact r_keep [5, 4, 3, 0, 1] rfl (loop3 hrd 0 (by omega))
      | false => exact r_keep [5, 4, 3, 0, 1] rfl (none3 hrd)
  -- the days as they are lived
  have loop1 : ∀ k, k ≤ n → ∀ I1 : fdI, (∀ a, a ≠ 13 → a ≠ 16 → I1 a = I a) → (∀ i, i < k → I1 16 (p i) = nI i ∧ I1 13 (p i) = ahV (mV I) p i) →
      Rn fd_SM α mX11_lives 4 [(3, .int (nI k)), (2, .int (ahV (mV I) p k)), (0, .ref (α 0)), (1, .ref (α kr))] [] I1 L (fd_vp (fun I' L' => L' = L ∧ ∃ B, lvI I I' n nn p B)) := by
    refine fd_down (fun k hk ih => ?_)
    intro I1 h1 h2
    have hd1 : I1 0 1 = nI n := by rw [h1 0 (by decide) (by decide)]; exact hn
    refine r_iload_n dX11_lives_4 rfl ?_
    refine r_aload_n dX11_lives_5 rfl ?_
    refine r_getV rfl rfl fl_11_93 dX11_lives_6 hd1 ?_
    refine r_icmp_ge 46 dX11_lives_9 (by decide) (fun h9 => ?_) (fun h9 => ?_)
    · have hh := (nI_leI (by omega) (by omega)).mp h9
      have e : k = n := by omega
      subst e
      refine r_aload_n dX11_lives_46 rfl ?_
      refine r_iconst (v := 0) dX11_lives_47 rfl ?_
      refine r_putI rfl rfl fl_11_164 fw_11_22 dX11_lives_48 ?_
      refine r_iconst (v := 0) dX11_lives_51 rfl ?_
      refine r_istore_n (lv' := [(3, _), (2, _), (0, _), (1, _)]) dX11_lives_52 (Nat.le_of_ble_eq_true rfl) rfl ?_
      refine r_keep [3, 0, 1] rfl (loop2 (I1 13) (fun i hi => (h2 i hi).2) 0 (by omega) _ (fun a a0 a1 a2 a3 a4 => by rw [fd_up_cell a0]; exact h1 a a1 a4) (fun j hj => by rw [fd_up_pl hj, h1 0 (by decide) (by decide)]) (fun i hi => by rw [fd_up_ne (by decide)]; exact (h2 i hi).1) (by rw [fd_up_cell (by decide)]) (fun e he => by omega) (by rw [fd_up_same]; rfl))
    · have hh : k < n := Nat.lt_of_not_le fun q => h9 ((nI_leI (by omega) (by omega)).mpr q)
      have hpk := hp7 k hh
      have hrk : I1 kr k = nI (p k) := by rw [h1 kr k13 k16]; exact hrow k hh
      have hrk2 : (fd_up I1 13 (p k) (ahV (mV I) p k)) kr k = nI (p k) := by rw [fd_up_ne k13]; exact hrk
      have hrk3 : (fd_up (fd_up I1 13 (p k) (ahV (mV I) p k)) 16 (p k) (nI k)) kr k = nI (p k) := by rw [fd_up_ne k16]; exact hrk2
      have el : lnV (mV (fd_up (fd_up I1 13 (p k) (ahV (mV I) p k)) 16 (p k) (nI k))) (p k) = lnV (mV I) (p k) := by
        have q : ∀ c, c = 2 ∨ c = 3 ∨ c = 4 → (fd_up (fd_up I1 13 (p k) (ahV (mV I) p k)) 16 (p k) (nI k)) c = I c := by
          intro c hc
          rw [fd_up_cell (by omega), fd_up_cell (by omega)]
          exact h1 c (by omega) (by omega)
        exact lnV_congr (congrFun (q 2 (by decide)) _) (congrFun (q 3 (by decide)) _) (congrFun (q 4 (by decide)) _)
      refine r_aload_n dX11_lives_12 rfl ?_
      refine r_getR rfl rfl fl_11_46 dX11_lives_13 ?_
      refine r_aload_n dX11_lives_16 rfl ?_
      refine r_iload_n dX11_lives_17 rfl ?_
      refine r_ialdN hS dX11_lives_18 (by omega) (by omega) hrk ?_
      refine r_iload_n dX11_lives_19 rfl ?_
      refine r_iastN rfl dX11_lives_20 (by omega) (by omega) ?_
      refine r_aload_n dX11_lives_21 rfl ?_
      refine r_getR rfl rfl fl_11_55 dX11_lives_22 ?_
      refine r_aload_n dX11_lives_25 rfl ?_
      refine r_iload_n dX11_lives_26 rfl ?_
      refine r_ialdN hS dX11_lives_27 (by omega) (by omega) hrk2 ?_
      refine r_iload_n dX11_lives_28 rfl ?_
      refine r_iastN rfl dX11_lives_29 (by omega) (by omega) ?_
      refine r_iload_n dX11_lives_30 rfl ?_
      refine r_aload_n dX11_lives_31 rfl ?_
      refine r_aload_n dX11_lives_32 rfl ?_
      refine r_iload_n dX11_lives_33 rfl ?_
      refine r_ialdN hS dX11_lives_34 (by omega) (by omega) hrk3 ?_
      refine r_cVr (As := [_]) (c_X11_learns α _ _ _ hpk) lk_11_161 rfl rfl (by decide) (by decide) rfl rfl (Nat.le_of_ble_eq_true rfl) dX11_lives_35 ?_
      rw [el]
      refine r_ior dX11_lives_38 ?_
      refine r_istore_n (lv' := [(2, _), (3, _), (0, _), (1, _)]) dX11_lives_39 (Nat.le_of_ble_eq_true rfl) rfl ?_
      refine r_iinc (v := _ + 1) (lv' := [(3, _), (2, _), (0, _), (1, _)]) dX11_lives_40 rfl rfl (Nat.le_of_ble_eq_true rfl) rfl ?_
      refine r_goto (tgt := 4) dX11_lives_43 (by decide) ?_
      rw [nI_1]
      refine r_keep [3, 2, 0, 1] rfl (ih hh _ (fun a a1 a2 => by rw [fd_up_cell a2, fd_up_cell a1]; exact h1 a a1 a2) (fun i hi => ?_))
      rw [fd_up_at, fd_up_ne (k := 16) (a := 13) (by decide), fd_up_at]
      by_cases q : i = k
      · subst q
        rw [if_pos rfl, if_pos rfl]
        exact ⟨rfl, rfl⟩
      · have q2 : ¬ p i = p k := fun z => q (hp.2 i k (by omega) hh z)
        rw [if_neg q2, if_neg q2, fd_up_ne (by decide)]
        exact h2 i (by omega)
  refine r_iconst (v := 0) dX11_lives_0 rfl ?_
  refine r_istore_n (lv' := [(2, _), (0, _), (1, _)]) dX11_lives_1 (Nat.le_of_ble_eq_true rfl) rfl ?_
  refine r_iconst (v := 0) dX11_lives_2 rfl ?_
  refine r_istore_n (lv' := [(3, _), (2, _), (0, _), (1, _)]) dX11_lives_3 (Nat.le_of_ble_eq_true rfl) rfl ?_
  exact r_keep [3, 2, 0, 1] rfl (loop1 0 (by omega) I (fun _ _ _ => rfl) (fun i hi => by omega))
