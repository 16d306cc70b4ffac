/-! the class: promise -/
theorem c_X2_teachToo (s : pS) (α : Nat → Nat) (I : fdI) (L : fdL) (a : Nat) (f : Int32) (hs : stOk s) (hx : xSt 8 s I) (ha : a < s.2.1) (h : lkX s.1 s.2.1 s.2.2.1 I) : Con fd_SX α yX2_teachToo mX2_teachToo [.ref (α 57), .ref (α 8), .ref (α 1), .int (nI a), .int (1 <<< (f &&& 31))] I L (fd_vp (fun I' L' => L' = L ∧ (∀ x, x ≠ 62 → I' x = I x) ∧ lkX (teV s.1 a f) s.2.1 s.2.2.1 I')) := by
  refine Con.of (by decide) rfl (Nat.le_of_ble_eq_true rfl) ?_
  have hn7 := hs.n7
  obtain ⟨e1, e2, e3, -, -⟩ := hx.kind ha
  obtain ⟨κ, hκ, eκ⟩ := dayP_nI (hs.v.1 a ha).1
  have ek : I 9 a = nI κ := e1.trans eκ
  have t1 : teV s.1 a f 1 a = nI κ := (fd_up_ne (by decide)).trans eκ
  have t2 : teV s.1 a f 2 a = s.1 2 a := fd_up_ne (by decide)
  have t3 : teV s.1 a f 3 a = s.1 3 a ||| 1 <<< (f &&& 31) := fd_up_same
  have tl : ∀ v, v = lnV (teV s.1 a f) a → lkX (teV s.1 a f) s.2.1 s.2.2.1 (fd_up I 62 a v) := by
    intro v hv
    refine ⟨h.1, fun d hd => ?_⟩
    obtain ⟨g1, g2, g3, g4, g5⟩ := h.2 d hd
    have u1 : teV s.1 a f 1 d = s.1 1 d := fd_up_ne (by decide)
    have u2 : teV s.1 a f 2 d = s.1 2 d := fd_up_ne (by decide)
    refine ⟨?_, ?_, ?_, ?_, ?_⟩
    · rw [fd_up_ne (by decide), g1, show rdB (teV s.1 a f) d = rdB s.1 d by unfold rdB; rw [u1]]
    · rw [fd_up_ne (by decide), g2, show wrB (teV s.1 a f) d = wrB s.1 d by unfold wrB; rw [u1]]
    · rw [fd_up_at]
      by_cases q : d = a
      · rw [if_pos q, q, hv]
      · have u3 : teV s.1 a f 3 d = s.1 3 d := fd_up_pl q
        rw [if_neg q, g3]; exact (lnV_congr u1 u2 u3).symm
    · rw [fd_up_ne (by decide), g4]; exact (akV_congr u1 u2).symm
    · rw [fd_up_ne (by decide), g5]
      exact (noV_agr (fun i _ => ⟨fd_up_ne (by decide), fd_up_ne (by decide)⟩)).symm
  rcases (show κ = 0 ∨ κ = 1 ∨ κ = 2 ∨ κ = 3 ∨ κ = 4 ∨ κ = 5 by omega) with rfl | rfl | rfl | rfl | rfl | rfl
  · have d3 : lnV (teV s.1 a f) a = (s.1 3 a ||| 1 <<< (f &&& 31)) := by unfold lnV; rw [t1, t3]; rfl
    refine r_aload_n dX2_teachToo_0 rfl ?_
    refine r_aload_n dX2_teachToo_1 rfl ?_
    refine r_iload_n dX2_teachToo_2 rfl ?_
    refine r_cSr (As := [_, _, _]) (c_X2_kindOf α _ _ a 0 (by omega) (by decide) ek) lk_2_50 (by decide) (by decide) rfl rfl (Nat.le_of_ble_eq_true rfl) dX2_teachToo_3 ?_
    refine r_astore (lv' := [(5, _), (0, _), (1, _), (2, _), (3, _), (4, _)]) dX2_teachToo_6 (Nat.le_of_ble_eq_true rfl) rfl ?_
    refine r_aload dX2_teachToo_8 rfl ?_
    refine r_ifnull dX2_teachToo_10 ?_
    refine r_aload_n dX2_teachToo_13 rfl ?_
    refine r_getR rfl rfl fl_2_25 dX2_teachToo_14 ?_
    refine r_iload_n dX2_teachToo_17 rfl ?_
    refine r_aload dX2_teachToo_18 rfl ?_
    refine r_aload_n dX2_teachToo_20 rfl ?_
    refine r_getR rfl rfl fl_2_63 dX2_teachToo_21 ?_
    refine r_iload_n dX2_teachToo_24 rfl ?_
    refine r_ialdN rfl dX2_teachToo_25 (by omega) (by omega) e2 ?_
    refine r_aload_n dX2_teachToo_26 rfl ?_
    refine r_getR rfl rfl fl_2_66 dX2_teachToo_27 ?_
    refine r_iload_n dX2_teachToo_30 rfl ?_
    refine r_ialdN rfl dX2_teachToo_31 (by omega) (by omega) e3 ?_
    refine r_iload dX2_teachToo_32 rfl ?_
    refine r_ior dX2_teachToo_34 ?_
    refine r_cOr (As := [_, _]) (c_X7_learntOf α _ _ 2 _ _) lk_2_69_7 rfl rfl (by decide) (by decide) rfl rfl (Nat.le_of_ble_eq_true rfl) dX2_teachToo_35 ?_
    refine r_iastN rfl dX2_teachToo_38 (by omega) (by omega) ?_
    refine r_vret rfl dX2_teachToo_39 ?_
    exact ⟨rfl, rfl, fun x hx => fd_up_cell hx, tl _ d3.symm⟩
  · have d3 : lnV (teV s.1 a f) a = (s.1 3 a ||| 1 <<< (f &&& 31)) := by unfold lnV; rw [t1, t3]; rfl
    refine r_aload_n dX2_teachToo_0 rfl ?_
    refine r_aload_n dX2_teachToo_1 rfl ?_
    refine r_iload_n dX2_teachToo_2 rfl ?_
    refine r_cSr (As := [_, _, _]) (c_X2_kindOf α _ _ a 1 (by omega) (by decide) ek) lk_2_50 (by decide) (by decide) rfl rfl (Nat.le_of_ble_eq_true rfl) dX2_teachToo_3 ?_
    refine r_astore (lv' := [(5, _), (0, _), (1, _), (2, _), (3, _), (4, _)]) dX2_teachToo_6 (Nat.le_of_ble_eq_true rfl) rfl ?_
    refine r_aload dX2_teachToo_8 rfl ?_
    refine r_ifnull dX2_teachToo_10 ?_
    refine r_aload_n dX2_teachToo_13 rfl ?_
    refine r_getR rfl rfl fl_2_25 dX2_teachToo_14 ?_
    refine r_iload_n dX2_teachToo_17 rfl ?_
    refine r_aload dX2_teachToo_18 rfl ?_
    refine r_aload_n dX2_teachToo_20 rfl ?_
    refine r_getR rfl rfl fl_2_63 dX2_teachToo_21 ?_
    refine r_iload_n dX2_teachToo_24 rfl ?_
    refine r_ialdN rfl dX2_teachToo_25 (by omega) (by omega) e2 ?_
    refine r_aload_n dX2_teachToo_26 rfl ?_
    refine r_getR rfl rfl fl_2_66 dX2_teachToo_27 ?_
    refine r_iload_n dX2_teachToo_30 rfl ?_
    refine r_ialdN rfl dX2_teachToo_31 (by omega) (by omega) e3 ?_
    refine r_iload dX2_teachToo_32 rfl ?_
    refine r_ior dX2_teachToo_34 ?_
    refine r_cOr (As := [_, _]) (c_X7_learntOf α _ _ 3 _ _) lk_2_69_1 rfl rfl (by decide) (by decide) rfl rfl (Nat.le_of_ble_eq_true rfl) dX2_teachToo_35 ?_
    refine r_iastN rfl dX2_teachToo_38 (by omega) (by omega) ?_
    refine r_vret rfl dX2_teachToo_39 ?_
    exact ⟨rfl, rfl, fun x hx => fd_up_cell hx, tl _ d3.symm⟩
  · have d3 : lnV (teV s.1 a f) a = 0 := by unfold lnV; rw [t1]; rfl
    refine r_aload_n dX2_teachToo_0 rfl ?_
    refine r_aload_n dX2_teachToo_1 rfl ?_
    refine r_iload_n dX2_teachToo_2 rfl ?_
    refine r_cSr (As := [_, _, _]) (c_X2_kindOf α _ _ a 2 (by omega) (by decide) ek) lk_2_50 (by decide) (by decide) rfl rfl (Nat.le_of_ble_eq_true rfl) dX2_teachToo_3 ?_
    refine r_astore (lv' := [(5, _), (0, _), (1, _), (2, _), (3, _), (4, _)]) dX2_teachToo_6 (Nat.le_of_ble_eq_true rfl) rfl ?_
    refine r_aload dX2_teachToo_8 rfl ?_
    refine r_ifnull dX2_teachToo_10 ?_
    refine r_aload_n dX2_teachToo_13 rfl ?_
    refine r_getR rfl rfl fl_2_25 dX2_teachToo_14 ?_
    refine r_iload_n dX2_teachToo_17 rfl ?_
    refine r_aload dX2_teachToo_18 rfl ?_
    refine r_aload_n dX2_teachToo_20 rfl ?_
    refine r_getR rfl rfl fl_2_63 dX2_teachToo_21 ?_
    refine r_iload_n dX2_teachToo_24 rfl ?_
    refine r_ialdN rfl dX2_teachToo_25 (by omega) (by omega) e2 ?_
    refine r_aload_n dX2_teachToo_26 rfl ?_
    refine r_getR rfl rfl fl_2_66 dX2_teachToo_27 ?_
    refine r_iload_n dX2_teachToo_30 rfl ?_
    refine r_ialdN rfl dX2_teachToo_31 (by omega) (by omega) e3 ?_
    refine r_iload dX2_teachToo_32 rfl ?_
    refine r_ior dX2_teachToo_34 ?_
    refine r_cOr (As := [_, _]) (c_X4_learntOf α _ _ 4 _ _) lk_2_69_4 rfl rfl (by decide) (by decide) rfl rfl (Nat.le_of_ble_eq_true rfl) dX2_teachToo_35 ?_
    refine r_iastN rfl dX2_teachToo_38 (by omega) (by omega) ?_
    refine r_vret rfl dX2_teachToo_39 ?_
    exact ⟨rfl, rfl, fun x hx => fd_up_cell hx, tl _ d3.symm⟩
  · have d3 : lnV (teV s.1 a f) a = (s.1 3 a ||| 1 <<< (f &&& 31)) := by unfold lnV; rw [t1, t3]; rfl
    refine r_aload_n dX2_teachToo_0 rfl ?_
    refine r_aload_n dX2_teachToo_1 rfl ?_
    refine r_iload_n dX2_teachToo_2 rfl ?_
    refine r_cSr (As := [_, _, _]) (c_X2_kindOf α _ _ a 3 (by omega) (by decide) ek) lk_2_50 (by decide) (by decide) rfl rfl (Nat.le_of_ble_eq_true rfl) dX2_teachToo_3 ?_
    refine r_astore (lv' := [(5, _), (0, _), (1, _), (2, _), (3, _), (4, _)]) dX2_teachToo_6 (Nat.le_of_ble_eq_true rfl) rfl ?_
    refine r_aload dX2_teachToo_8 rfl ?_
    refine r_ifnull dX2_teachToo_10 ?_
    refine r_aload_n dX2_teachToo_13 rfl ?_
    refine r_getR rfl rfl fl_2_25 dX2_teachToo_14 ?_
    refine r_iload_n dX2_teachToo_17 rfl ?_
    refine r_aload dX2_teachToo_18 rfl ?_
    refine r_aload_n dX2_teachToo_20 rfl ?_
    refine r_getR rfl rfl fl_2_63 dX2_teachToo_21 ?_
    refine r_iload_n dX2_teachToo_24 rfl ?_
    refine r_ialdN rfl dX2_teachToo_25 (by omega) (by omega) e2 ?_
    refine r_aload_n dX2_teachToo_26 rfl ?_
    refine r_getR rfl rfl fl_2_66 dX2_teachToo_27 ?_
    refine r_iload_n dX2_teachToo_30 rfl ?_
    refine r_ialdN rfl dX2_teachToo_31 (by omega) (by omega) e3 ?_
    refine r_iload dX2_teachToo_32 rfl ?_
    refine r_ior dX2_teachToo_34 ?_
    refine r_cOr (As := [_, _]) (c_X7_learntOf α _ _ 5 _ _) lk_2_69_0 rfl rfl (by decide) (by decide) rfl rfl (Nat.le_of_ble_eq_true rfl) dX2_teachToo_35 ?_
    refine r_iastN rfl dX2_teachToo_38 (by omega) (by omega) ?_
    refine r_vret rfl dX2_teachToo_39 ?_
    exact ⟨rfl, rfl, fun x hx => fd_up_cell hx, tl _ d3.symm⟩
  · have d3 : lnV (teV s.1 a f) a = (s.1 3 a ||| 1 <<< (f &&& 31)) ||| s.1 2 a := by unfold lnV; rw [t1, t3, t2]; rfl
    refine r_aload_n dX2_teachToo_0 rfl ?_
    refine r_aload_n dX2_teachToo_1 rfl ?_
    refine r_iload_n dX2_teachToo_2 rfl ?_
    refine r_cSr (As := [_, _, _]) (c_X2_kindOf α _ _ a 4 (by omega) (by decide) ek) lk_2_50 (by decide) (by decide) rfl rfl (Nat.le_of_ble_eq_true rfl) dX2_teachToo_3 ?_
    refine r_astore (lv' := [(5, _), (0, _), (1, _), (2, _), (3, _), (4, _)]) dX2_teachToo_6 (Nat.le_of_ble_eq_true rfl) rfl ?_
    refine r_aload dX2_teachToo_8 rfl ?_
    refine r_ifnull dX2_teachToo_10 ?_
    refine r_aload_n dX2_teachToo_13 rfl ?_
    refine r_getR rfl rfl fl_2_25 dX2_teachToo_14 ?_
    refine r_iload_n dX2_teachToo_17 rfl ?_
    refine r_aload dX2_teachToo_18 rfl ?_
    refine r_aload_n dX2_teachToo_20 rfl ?_
    refine r_getR rfl rfl fl_2_63 dX2_teachToo_21 ?_
    refine r_iload_n dX2_teachToo_24 rfl ?_
    refine r_ialdN rfl dX2_teachToo_25 (by omega) (by omega) e2 ?_
    refine r_aload_n dX2_teachToo_26 rfl ?_
    refine r_getR rfl rfl fl_2_66 dX2_teachToo_27 ?_
    refine r_iload_n dX2_teachToo_30 rfl ?_
    refine r_ialdN rfl dX2_teachToo_31 (by omega) (by omega) e3 ?_
    refine r_iload dX2_teachToo_32 rfl ?_
    refine r_ior dX2_teachToo_34 ?_
    refine r_cOr (As := [_, _]) (c_X8_learntOf α _ _ 6 _ _) lk_2_69_8 rfl rfl (by decide) (by decide) rfl rfl (Nat.le_of_ble_eq_true rfl) dX2_teachToo_35 ?_
    refine r_iastN rfl dX2_teachToo_38 (by omega) (by omega) ?_
    refine r_vret rfl dX2_teachToo_39 ?_
    exact ⟨rfl, rfl, fun x hx => fd_up_cell hx, tl _ d3.symm⟩
  · have d3 : lnV (teV s.1 a f) a = 0 := by unfold lnV; rw [t1]; rfl
    refine r_aload_n dX2_teachToo_0 rfl ?_
    refine r_aload_n dX2_teachToo_1 rfl ?_
    refine r_iload_n dX2_teachToo_2 rfl ?_
    refine r_cSr (As := [_, _, _]) (c_X2_kindOf α _ _ a 5 (by omega) (by decide) ek) lk_2_50 (by decide) (by decide) rfl rfl (Nat.le_of_ble_eq_true rfl) dX2_teachToo_3 ?_
    refine r_astore (lv' := [(5, _), (0, _), (1, _), (2, _), (3, _), (4, _)]) dX2_teachToo_6 (Nat.le_of_ble_eq_true rfl) rfl ?_
    refine r_aload dX2_teachToo_8 rfl ?_
    refine r_ifnull dX2_teachToo_10 ?_
    refine r_aload_n dX2_teachToo_13 rfl ?_
    refine r_getR rfl rfl fl_2_25 dX2_teachToo_14 ?_
    refine r_iload_n dX2_teachToo_17 rfl ?_
    refine r_aload dX2_teachToo_18 rfl ?_
    refine r_aload_n dX2_teachToo_20 rfl ?_
    refine r_getR rfl rfl fl_2_63 dX2_teachToo_21 ?_
    refine r_iload_n dX2_teachToo_24 rfl ?_
    refine r_ialdN rfl dX2_teachToo_25 (by omega) (by omega) e2 ?_
    refine r_aload_n dX2_teachToo_26 rfl ?_
    refine r_getR rfl rfl fl_2_66 dX2_teachToo_27 ?_
    refine r_iload_n dX2_teachToo_30 rfl ?_
    refine r_ialdN rfl dX2_teachToo_31 (by omega) (by omega) e3 ?_
    refine r_iload dX2_teachToo_32 rfl ?_
    refine r_ior dX2_teachToo_34 ?_
    refine r_cOr (As := [_, _]) (c_X4_learntOf α _ _ 7 _ _) lk_2_69_3 rfl rfl (by decide) (by decide) rfl rfl (Nat.le_of_ble_eq_true rfl) dX2_teachToo_35 ?_
    refine r_iastN rfl dX2_teachToo_38 (by omega) (by omega) ?_
    refine r_vret rfl dX2_teachToo_39 ?_
    exact ⟨rfl, rfl, fun x hx => fd_up_cell hx, tl _ d3.symm⟩
theorem biN_i (x f : Int32) : (x >>> (f &&& 31)) &&& 1 = nI (biN x f) := by
  unfold biN
  rcases i_and1 (x >>> (f &&& 31)) with q | q
  · rw [if_pos q, q]; rfl
  · rw [if_neg (by rw [q]; decide), q]; rfl
def o_promise (s : pS) (f a b : Int32) : oT := if dayP f 6 ∧ dayP a s.2.1 ∧ dayP b s.2.1 ∧ ¬ a = b then (1, s, 3) else (-2, s, 0)
def f_promise (s : pS) (f a b : Int32) : Option (Nat × Nat) := if dayP f 6 ∧ dayP a s.2.1 ∧ dayP b s.2.1 ∧ ¬ a = b then some (smN (prS s.1 s.2.1 s.2.2.1 f a.toNatClampNeg b.toNatClampNeg) (fac s.2.1), fac s.2.1) else none
theorem crX.te {V : pV} {n nn a : Nat} {f : Int32} {p : Nat → Nat} {I J : fdI} (h : crX V n nn p I) (e : ∀ x, x ≠ 62 → J x = I x) (k : lkX (teV V a f) n nn J) : crX (teV V a f) n nn p J := ⟨k, fun i hi => by rw [e 58 (by decide)]; exact h.2.1 i hi, fun i hi => by rw [e 59 (by decide)]; exact h.2.2 i hi⟩
theorem c_X10_promise (s : pS) (α : Nat → Nat) (I : fdI) (L : fdL) (f a b : Int32) (hs : stOk s) (hx : xSt 8 s I) : Con fd_SX α yX10_promise mX10_promise [.ref (α 0), .int f, .int a, .int b] I L (fd_ip (xOuF (o_promise s f a b) (f_promise s f a b) I L)) := by
  refine Con.of (by decide) rfl (Nat.le_of_ble_eq_true rfl) ?_
  unfold o_promise f_promise
  have hn7 := hs.n7
  have hf := fac_le hn7.2
  have hf0 := fac_pos s.2.1
  have e13 : (5040 : Nat) < 2 ^ 13 := by decide
  by_cases hok : dayP f 6 ∧ dayP a s.2.1 ∧ dayP b s.2.1 ∧ ¬ a = b
  · rw [if_pos hok, if_pos hok]
    obtain ⟨ok1, ok2, ok3, ok4⟩ := id hok
    obtain ⟨a, ha, rfl⟩ := dayP_nI ok2
    obtain ⟨b, hb, rfl⟩ := dayP_nI ok3
    rw [nI_clamp (n := a) (by omega), nI_clamp (n := b) (by omega)]
    have hsm := smN_le (prS s.1 s.2.1 s.2.2.1 f a b) 1 (fun r => biN_le _ _)
    have hnd : ∀ k, k < s.2.2.1 → dayP (teV s.1 a f 6 k) s.2.1 := fun k hk => by
      have u : teV s.1 a f 6 k = s.1 6 k := fd_up_ne (by decide)
      rw [u]; exact hs.nd k hk
    have loop : ∀ r, r ≤ fac s.2.1 → ∀ I1 : fdI, cfr I I1 → (r < fac s.2.1 → crX (teV s.1 a f) s.2.1 s.2.2.1 (prm s.2.1 r) I1) → Rn fd_SX α mX10_promise 71 [(5, .int (nI r)), (4, .int (nI (smN (prS s.1 s.2.1 s.2.2.1 f a b) r))), (0, .ref (α 0)), (1, .int f), (2, .int (nI a)), (3, .int (nI b))] [] I1 L (fd_ip (xOuF (1, s, 3) (some (smN (prS s.1 s.2.1 s.2.2.1 f a b) (fac s.2.1), fac s.2.1)) I L)) := by
      refine fd_down (fun r hr ih => ?_)
      intro I1 f1 c1
      have x1 := f1.st hx (by decide)
      have hs1 := hsm r
      by_cases hx2 : r = fac s.2.1
      · rw [hx2] at hs1 ⊢
        refine r_iload dX10_promise_71 rfl ?_
        refine r_aload_n dX10_promise_73 rfl ?_
        refine r_getR rfl rfl fl_10_18 dX10_promise_74 ?_
        refine r_cVr (As := []) (c_X5_orders α _ _ x1.n hn7) lk_10_176 rfl rfl (by decide) (by decide) rfl rfl (Nat.le_of_ble_eq_true rfl) dX10_promise_77 ?_
        refine r_icmp_ge 121 dX10_promise_80 (by decide) (fun h80 => ?_) (fun h80 => absurd h80 (not_not_intro (Int32.le_refl _)))
        refine r_aload_n dX10_promise_121 rfl ?_
        refine r_iload dX10_promise_122 rfl ?_
        refine r_i2l dX10_promise_124 rfl ?_
        rw [nI_l (by omega)]
        refine r_aload_n dX10_promise_125 rfl ?_
        refine r_getR rfl rfl fl_10_18 dX10_promise_126 ?_
        refine r_cVr (As := []) (c_X5_orders α _ _ x1.n hn7) lk_10_176 rfl rfl (by decide) (by decide) rfl rfl (Nat.le_of_ble_eq_true rfl) dX10_promise_129 ?_
        refine r_i2l dX10_promise_132 rfl ?_
        rw [nI_l (by omega)]
        refine r_cVn (As := [_, _]) (c_X10_setFraction α _ _ _ _ (by omega) (by omega) (by omega)) lk_10_208 rfl rfl (by decide) (by decide) rfl rfl (Nat.le_of_ble_eq_true rfl) dX10_promise_133 ?_
        refine r_iconst (v := 1) dX10_promise_136 rfl ?_
        refine r_iret rfl dX10_promise_137 ?_
        exact ⟨_, rfl, xOut.ask hx f1, rfl⟩
      · have hr1 : r < fac s.2.1 := by omega
        have c1 := c1 hr1
        have hP := prm_P hn7 hr1
        have ih := ih hr1
        refine r_iload dX10_promise_71 rfl ?_
        refine r_aload_n dX10_promise_73 rfl ?_
        refine r_getR rfl rfl fl_10_18 dX10_promise_74 ?_
        refine r_cVr (As := []) (c_X5_orders α _ _ x1.n hn7) lk_10_176 rfl rfl (by decide) (by decide) rfl rfl (Nat.le_of_ble_eq_true rfl) dX10_promise_77 ?_
        refine r_icmp_ge 121 dX10_promise_80 (by decide) (fun h80 => absurd h80 (fun q => absurd ((nI_leI (by omega) (by omega)).mp q) (by omega))) (fun h80 => ?_)
        refine r_aload_n dX10_promise_83 rfl ?_
        refine r_getR rfl rfl fl_10_43 dX10_promise_84 ?_
        refine r_cVq (As := []) (c_X2_liveThrough (teV s.1 a f) α _ _ hn7 hnd hP c1.1 c1.2.1) lk_10_232 rfl rfl (by decide) (by decide) rfl rfl (Nat.le_of_ble_eq_true rfl) dX10_promise_87 (fun I87 L87 q87 => ?_)
        obtain ⟨rfl, f87, l87⟩ := q87
        have c87 := c1.live f87
        refine r_iload dX10_promise_90 rfl ?_
        refine r_aload_n dX10_promise_92 rfl ?_
        refine r_getR rfl rfl fl_10_43 dX10_promise_93 ?_
        refine r_getR rfl rfl fl_10_158 dX10_promise_96 ?_
        refine r_iload_n dX10_promise_99 rfl ?_
        refine r_ialdN rfl dX10_promise_100 (by omega) (by omega) (l87 b hb).2.2 ?_
        refine r_iload_n dX10_promise_101 rfl ?_
        refine r_ishr dX10_promise_102 ?_
        refine r_iconst (v := 1) dX10_promise_103 rfl ?_
        refine r_iand dX10_promise_104 ?_
        rw [biN_i]
        refine r_iadd dX10_promise_105 ?_
        rw [nI_add]
        refine r_istore (lv' := [(4, _), (5, _), (0, _), (1, _), (2, _), (3, _)]) dX10_promise_106 (Nat.le_of_ble_eq_true rfl) rfl ?_
        refine r_aload_n dX10_promise_108 rfl ?_
        refine r_getR rfl rfl fl_10_43 dX10_promise_109 ?_
        refine r_cVq (As := []) (c_X2_goOn α _ _ r c87.1.1 hn7 hr1 c87.2.1) lk_10_183 rfl rfl (by decide) (by decide) rfl rfl (Nat.le_of_ble_eq_true rfl) dX10_promise_112 (fun I112 L112 q112 => ?_)
        obtain ⟨rfl, f112, o112⟩ := q112
        obtain ⟨g112, c112⟩ := go_next c1 f87 f112 o112
        refine r_iinc (v := _ + 1) (lv' := [(5, _), (4, _), (0, _), (1, _), (2, _), (3, _)]) dX10_promise_115 rfl rfl (Nat.le_of_ble_eq_true rfl) rfl ?_
        refine r_goto (tgt := 71) dX10_promise_118 (by decide) ?_
        rw [nI_1]
        exact r_keep [5, 4, 0, 1, 2, 3] rfl (ih _ (f1.trans g112) c112)
    refine r_iload_n dX10_promise_0 rfl ?_
    refine r_cSr (As := [_]) (c_X10_isFact α _ _ _) lk_10_225 (by decide) (by decide) rfl rfl (Nat.le_of_ble_eq_true rfl) dX10_promise_1 ?_
    refine r_if_eq 34 dX10_promise_4 (by decide) (fun h4 => absurd h4 (fd_bn.mpr ok1)) (fun h4 => ?_)
    refine r_aload_n dX10_promise_7 rfl ?_
    refine r_getR rfl rfl fl_10_18 dX10_promise_8 ?_
    refine r_iload_n dX10_promise_11 rfl ?_
    refine r_cVr (As := [_]) (c_X5_hasDay α _ _ _ hx.n hn7) lk_10_144 rfl rfl (by decide) (by decide) rfl rfl (Nat.le_of_ble_eq_true rfl) dX10_promise_12 ?_
    refine r_if_eq 34 dX10_promise_15 (by decide) (fun h15 => absurd h15 (fd_bn.mpr ok2)) (fun h15 => ?_)
    refine r_aload_n dX10_promise_18 rfl ?_
    refine r_getR rfl rfl fl_10_18 dX10_promise_19 ?_
    refine r_iload_n dX10_promise_22 rfl ?_
    refine r_cVr (As := [_]) (c_X5_hasDay α _ _ _ hx.n hn7) lk_10_144 rfl rfl (by decide) (by decide) rfl rfl (Nat.le_of_ble_eq_true rfl) dX10_promise_23 ?_
    refine r_if_eq 34 dX10_promise_26 (by decide) (fun h26 => absurd h26 (fd_bn.mpr ok3)) (fun h26 => ?_)
    refine r_iload_n dX10_promise_29 rfl ?_
    refine r_iload_n dX10_promise_30 rfl ?_
    refine r_icmp_ne 41 dX10_promise_31 (by decide) (fun h31 => ?_) (fun h31 => absurd h31 ok4)
    refine r_aload_n dX10_promise_41 rfl ?_
    refine r_iconst (v := 0) dX10_promise_42 rfl ?_
    refine r_cVq (As := [_]) (c_X10_follow s α _ _ 0 hs hx hf0) lk_10_151 rfl rfl (by decide) (by decide) rfl rfl (Nat.le_of_ble_eq_true rfl) dX10_promise_43 (fun I43 L43 q43 => ?_)
    obtain ⟨rfl, f43, c43, l43⟩ := q43
    refine r_aload_n dX10_promise_46 rfl ?_
    refine r_getR rfl rfl fl_10_43 dX10_promise_47 ?_
    refine r_aload_n dX10_promise_50 rfl ?_
    refine r_getR rfl rfl fl_10_18 dX10_promise_51 ?_
    refine r_aload_n dX10_promise_54 rfl ?_
    refine r_getR rfl rfl fl_10_11 dX10_promise_55 ?_
    refine r_iload_n dX10_promise_58 rfl ?_
    refine r_iconst (v := 1) dX10_promise_59 rfl ?_
    refine r_iload_n dX10_promise_60 rfl ?_
    refine r_ishl dX10_promise_61 ?_
    refine r_cVq (As := [_, _, _, _]) (c_X2_teachToo s α _ _ a f hs (f43.st hx (by decide)) ha c43.1) lk_10_228 rfl rfl (by decide) (by decide) rfl rfl (Nat.le_of_ble_eq_true rfl) dX10_promise_62 (fun I62 L62 q62 => ?_)
    obtain ⟨rfl, f62, k62⟩ := q62
    refine r_iconst (v := 0) dX10_promise_65 rfl ?_
    refine r_istore (lv' := [(4, _), (0, _), (1, _), (2, _), (3, _)]) dX10_promise_66 (Nat.le_of_ble_eq_true rfl) rfl ?_
    refine r_iconst (v := 0) dX10_promise_68 rfl ?_
    refine r_istore (lv' := [(5, _), (4, _), (0, _), (1, _), (2, _), (3, _)]) dX10_promise_69 (Nat.le_of_ble_eq_true rfl) rfl ?_
    exact r_keep [5, 4, 0, 1, 2, 3] rfl (loop 0 (by omega) _ (f43.trans (fun x hx => f62 x (by omega))) (fun _ => c43.te f62 k62))
  · rw [if_neg hok, if_neg hok]
    refine r_iload_n dX10_promise_0 rfl ?_
    refine r_cSr (As := [_]) (c_X10_isFact α _ _ _) lk_10_225 (by decide) (by decide) rfl rfl (Nat.le_of_ble_eq_true rfl) dX10_promise_1 ?_
    refine r_if_eq 34 dX10_promise_4 (by decide) (fun h4 => ?_) (fun h4 => ?_)
    · refine r_aload_n dX10_promise_34 rfl ?_
      refine r_bipush (v := (-2)) dX10_promise_35 rfl ?_
      refine r_cVr (As := [_]) (c_X10_counted α _ _ _) lk_10_91 rfl rfl (by decide) (by decide) rfl rfl (Nat.le_of_ble_eq_true rfl) dX10_promise_37 ?_
      refine r_iret rfl dX10_promise_40 ?_
      exact ⟨_, rfl, xOut.cn hx xFr.rfl' rfl rfl, rfl⟩
    · refine r_aload_n dX10_promise_7 rfl ?_
      refine r_getR rfl rfl fl_10_18 dX10_promise_8 ?_
      refine r_iload_n dX10_promise_11 rfl ?_
      refine r_cVr (As := [_]) (c_X5_hasDay α _ _ _ hx.n hn7) lk_10_144 rfl rfl (by decide) (by decide) rfl rfl (Nat.le_of_ble_eq_true rfl) dX10_promise_12 ?_
      refine r_if_eq 34 dX10_promise_15 (by decide) (fun h15 => ?_) (fun h15 => ?_)
      · refine r_aload_n dX10_promise_34 rfl ?_
        refine r_bipush (v := (-2)) dX10_promise_35 rfl ?_
        refine r_cVr (As := [_]) (c_X10_counted α _ _ _) lk_10_91 rfl rfl (by decide) (by decide) rfl rfl (Nat.le_of_ble_eq_true rfl) dX10_promise_37 ?_
        refine r_iret rfl dX10_promise_40 ?_
        exact ⟨_, rfl, xOut.cn hx xFr.rfl' rfl rfl, rfl⟩
      · refine r_aload_n dX10_promise_18 rfl ?_
        refine r_getR rfl rfl fl_10_18 dX10_promise_19 ?_
        refine r_iload_n dX10_promise_22 rfl ?_
        refine r_cVr (As := [_]) (c_X5_hasDay α _ _ _ hx.n hn7) lk_10_144 rfl rfl (by decide) (by decide) rfl rfl (Nat.le_of_ble_eq_true rfl) dX10_promise_23 ?_
        refine r_if_eq 34 dX10_promise_26 (by decide) (fun h26 => ?_) (fun h26 => ?_)
        · refine r_aload_n dX10_promise_34 rfl ?_
          refine r_bipush (v := (-2)) dX10_promise_35 rfl ?_
          refine r_cVr (As := [_]) (c_X10_counted α _ _ _) lk_10_91 rfl rfl (by decide) (by decide) rfl rfl (Nat.le_of_ble_eq_true rfl) dX10_promise_37 ?_
          refine r_iret rfl dX10_promise_40 ?_
          exact ⟨_, rfl, xOut.cn hx xFr.rfl' rfl rfl, rfl⟩
        · refine r_iload_n dX10_promise_29 rfl ?_
          refine r_iload_n dX10_promise_30 rfl ?_
          refine r_icmp_ne 41 dX10_promise_31 (by decide) (fun h31 => absurd h31 (fun q => hok ⟨fd_bn.mp h4, fd_bn.mp h15, fd_bn.mp h26, q⟩)) (fun h31 => ?_)
          refine r_aload_n dX10_promise_34 rfl ?_
          refine r_bipush (v := (-2)) dX10_promise_35 rfl ?_
          refine r_cVr (As := [_]) (c_X10_counted α _ _ _) lk_10_91 rfl rfl (by decide) (by decide) rfl rfl (Nat.le_of_ble_eq_true rfl) dX10_promise_37 ?_
          refine r_iret rfl dX10_promise_40 ?_
          exact ⟨_, rfl, xOut.cn hx xFr.rfl' rfl rfl, rfl⟩
