/-! lives that are told: they stay lives -/
theorem stOk.m {s : pS} (h : stOk s) : ∃ I, mSt s I := by
  obtain ⟨V, n, nn, np, nt, rk, ot, ly⟩ := s
  obtain ⟨h1, h2, h3, h4, h5, h6, h7, h8⟩ := h
  exact ⟨fun c => match c with
    | 0 => fun j => match j with
      | 1 => nI n
      | 7 => nI nn
      | 10 => nI np
      | 13 => nI nt
      | 16 => nI ot
      | 17 => nI ly
      | _ => 0
    | 2 => V 1
    | 3 => V 2
    | 4 => V 3
    | 5 => V 4
    | 6 => fun k => nI (prm n rk k)
    | 7 => V 6
    | 8 => V 7
    | 9 => V 8
    | 10 => V 9
    | 11 => V 10
    | 12 => V 5
    | _ => fun _ => 0, ⟨rfl, h1, rfl, h2, rfl, h3, rfl, h4, ⟨fun d _ => ⟨rfl, rfl, rfl, rfl, rfl⟩, fun k _ => ⟨rfl, rfl⟩, fun k _ => ⟨rfl, rfl⟩, fun k _ => rfl⟩, h8⟩, h5, fun k _ => rfl, rfl, h6, rfl, h7⟩
theorem stOk.life {n : Nat} (hn : 1 ≤ n ∧ n ≤ 7) : stOk (opLife n) := by
  have hf := fac_pos n
  refine ⟨hn, by omega, by omega, by omega, hf, hf, by omega, fun d hd => ⟨show dayP 0 6 by decide, show dayP 0 64 by decide, show dayP 0 64 by decide, Or.inl rfl, Or.inl rfl⟩, fun k hk => by omega, fun k hk => by omega, fun k hk => by omega⟩
theorem stOk.day {s : pS} {d : Nat} {k : Int32} (h : stOk s) (hd : d < s.2.1) (hk : dayP k 6) : stOk (opDay s d k) := by obtain ⟨I, hI⟩ := h.m; exact (hI.day hd hk).ok
theorem stOk.at {s : pS} {d : Nat} {k : Int32} (h : stOk s) (hd : d < s.2.1) (hk : k = -1 ∨ dayP k s.2.1) : stOk (opAt s d k) := by obtain ⟨I, hI⟩ := h.m; exact (hI.at hd hk).ok
theorem stOk.fact {s : pS} {d w : Nat} {f : Int32} (h : stOk s) (hd : d < s.2.1) (hw : w < 2) (hf : dayP f 6) : stOk (opFact s d w f) := by obtain ⟨I, hI⟩ := h.m; exact (hI.fact hd hw hf).ok
theorem stOk.note {s : pS} {d f : Int32} (h : stOk s) (hd : dayP d s.2.1) (hf : dayP f 6) (h6 : s.2.2.1 < 6) : stOk (opNote s d f) := by obtain ⟨I, hI⟩ := h.m; exact (hI.note hd hf h6).ok
theorem stOk.ahead {s : pS} {a b : Int32} (h : stOk s) (ha : dayP a s.2.1) (hb : dayP b s.2.1) (h6 : s.2.2.2.1 < 6) : stOk (opAhead s a b) := by obtain ⟨I, hI⟩ := h.m; exact (hI.ahead ha hb h6).ok
theorem stD.life {n : Nat} : stD (opLife n) := fun k hk => absurd hk (Nat.not_lt_zero k)
theorem stD.up {V : pV} {n nn nn' np nt nt' rk rk' ot ot' ly ly' : Nat} {W : pV} (h : stD (V, n, nn, np, nt, rk, ot, ly)) (h8 : W 8 = V 8) (h9 : W 9 = V 9) : stD (W, n, nn', np, nt', rk', ot', ly') := fun k hk => by
  show ¬ W 8 k = W 9 k
  rw [h8, h9]
  exact h k hk
theorem stD.day {s : pS} {d : Nat} {k : Int32} (h : stD s) : stD (opDay s d k) := by obtain ⟨V, n, nn, np, nt, rk, ot, ly⟩ := s; exact h.up (fd_up_cell (by decide)) (fd_up_cell (by decide))
theorem stD.at {s : pS} {d : Nat} {k : Int32} (h : stD s) : stD (opAt s d k) := by obtain ⟨V, n, nn, np, nt, rk, ot, ly⟩ := s; exact h.up (fd_up_cell (by decide)) (fd_up_cell (by decide))
theorem stD.diary {s : pS} {d : Nat} {k : Int32} (h : stD s) : stD (opDiary s d k) := by obtain ⟨V, n, nn, np, nt, rk, ot, ly⟩ := s; exact h.up (fd_up_cell (by decide)) (fd_up_cell (by decide))
theorem stD.fact {s : pS} {d w : Nat} {f : Int32} (h : stD s) (hw : w < 2) : stD (opFact s d w f) := by obtain ⟨V, n, nn, np, nt, rk, ot, ly⟩ := s; exact h.up (fd_up_cell (by omega)) (fd_up_cell (by omega))
theorem stD.note {s : pS} {d f : Int32} (h : stD s) : stD (opNote s d f) := by
  obtain ⟨V, n, nn, np, nt, rk, ot, ly⟩ := s
  exact h.up (by rw [fd_up_cell (by decide), fd_up_cell (by decide)]) (by rw [fd_up_cell (by decide), fd_up_cell (by decide)])
theorem stD.told {s : pS} {r : Int32} (h : stD s) : stD (opTold s r) := by obtain ⟨V, n, nn, np, nt, rk, ot, ly⟩ := s; exact h.up (fd_up_cell (by decide)) (fd_up_cell (by decide))
theorem stD.order {s : pS} {r : Nat} (h : stD s) : stD (opOrder s r) := by obtain ⟨V, n, nn, np, nt, rk, ot, ly⟩ := s; exact h.up rfl rfl
theorem stD.other {s : pS} {r : Nat} (h : stD s) : stD (opOther s r) := by obtain ⟨V, n, nn, np, nt, rk, ot, ly⟩ := s; exact h.up rfl rfl
theorem stD.live {s : pS} {l : Nat} (h : stD s) : stD (opLive s l) := by obtain ⟨V, n, nn, np, nt, rk, ot, ly⟩ := s; exact h.up rfl rfl
theorem stD.ahead {s : pS} {a b : Int32} (h : stD s) (hab : ¬ a = b) : stD (opAhead s a b) := by
  obtain ⟨V, n, nn, np, nt, rk, ot, ly⟩ := s
  intro k hk
  have hk : k < np + 1 := hk
  show ¬ fd_up (fd_up V 8 np a) 9 np b 8 k = fd_up (fd_up V 8 np a) 9 np b 9 k
  rw [fd_up_ne (by decide), fd_up_at, fd_up_at, fd_up_ne (by decide)]
  by_cases q : k = np
  · rw [if_pos q, if_pos q]; exact hab
  · rw [if_neg q, if_neg q]; exact h k (by show k < np; omega)
theorem stD.tear {s : pS} {w : Int32} (h : stD s) : stD (opTear s w) := by
  obtain ⟨V, n, nn, np, nt, rk, ot, ly⟩ := s
  unfold opTear
  by_cases w0 : w = 0
  · simp only [if_pos w0]; exact h.up rfl rfl
  · by_cases w1 : w = 1
    · simp only [if_neg w0, if_pos w1]; exact fun k hk => absurd hk (Nat.not_lt_zero k)
    · by_cases w2 : w = 2
      · simp only [if_neg w0, if_neg w1, if_pos w2]; exact h.up (fd_row_ne (by decide)) (fd_row_ne (by decide))
      · simp only [if_neg w0, if_neg w1, if_neg w2]; exact h.up rfl rfl
theorem apI_ok {s : pS} {w a b : Int32} (h : stOk s) (hD : stD s) : stOk (apI s w a b).2 ∧ stD (apI s w a b).2 := by
  unfold apI
  by_cases q0 : w = 0
  · rw [if_pos q0]
    by_cases c : lifeP a
    · rw [if_pos c]; exact ⟨stOk.life (lifeP_nI c).2, stD.life⟩
    · rw [if_neg c]; exact ⟨h, hD⟩
  rw [if_neg q0]
  have dn : ∀ {x : Int32}, dayP x s.2.1 → x.toNatClampNeg < s.2.1 := fun {x} hx => by
    obtain ⟨j, hj, rfl⟩ := dayP_nI hx
    have := h.n7
    rw [nI_clamp (by omega)]
    exact hj
  by_cases q1 : w = 1
  · rw [if_pos q1]
    by_cases c : dayP a s.2.1 ∧ dayP b 6
    · rw [if_pos c]; exact ⟨h.day (dn c.1) c.2, hD.day⟩
    · rw [if_neg c]; exact ⟨h, hD⟩
  rw [if_neg q1]
  by_cases q2 : w = 2
  · rw [if_pos q2]
    by_cases c : dayP a s.2.1 ∧ dayP b 6 ∧ fcB s a.toNatClampNeg 0 b = false
    · rw [if_pos c]; exact ⟨h.fact (dn c.1) (by decide) c.2.1, hD.fact (by decide)⟩
    · rw [if_neg c]; exact ⟨h, hD⟩
  rw [if_neg q2]
  by_cases q3 : w = 3
  · rw [if_pos q3]
    by_cases c : dayP a s.2.1 ∧ dayP b 6 ∧ fcB s a.toNatClampNeg 1 b = false
    · rw [if_pos c]; exact ⟨h.fact (dn c.1) (by decide) c.2.1, hD.fact (by decide)⟩
    · rw [if_neg c]; exact ⟨h, hD⟩
  rw [if_neg q3]
  by_cases q4 : w = 4
  · rw [if_pos q4]
    by_cases c : dayP a s.2.1 ∧ dayP b 6 ∧ isNP s a b = false ∧ s.2.2.1 < 6
    · rw [if_pos c]; exact ⟨h.note c.1 c.2.1 c.2.2.2, hD.note⟩
    · rw [if_neg c]; exact ⟨h, hD⟩
  rw [if_neg q4]
  by_cases q5 : w = 5
  · rw [if_pos q5]
    by_cases c : dayP a s.2.1 ∧ dayP b s.2.1 ∧ ¬ a = b ∧ s.2.2.2.1 < 6
    · rw [if_pos c]; exact ⟨h.ahead c.1 c.2.1 c.2.2.2, hD.ahead c.2.2.1⟩
    · rw [if_neg c]; exact ⟨h, hD⟩
  rw [if_neg q5]
  by_cases c : dayP a s.2.1 ∧ (b = -1 ∨ dayP b s.2.1)
  · rw [if_pos c]; exact ⟨h.at (dn c.1) c.2, hD.at⟩
  · rw [if_neg c]; exact ⟨h, hD⟩
theorem apR_ok {W A B : Nat → Int32} : ∀ m i {s : pS}, stOk s → stD s → stOk (apR W A B m i s).2 ∧ stD (apR W A B m i s).2 := by
  intro m
  induction m with
  | zero => intro i s h hD; exact ⟨h, hD⟩
  | succ m ih =>
    intro i s h hD
    unfold apR
    split
    · have := apI_ok (w := W i) (a := A i) (b := B i) h hD
      exact ih (i + 1) this.1 this.2
    · exact ⟨h, hD⟩
/-! the class: an item is told -/
def teX (R : Bool × pS) (I : fdI) (L : fdL) (v : Value) (I' : fdI) (L' : fdL) : Prop := L' = L ∧ (∀ x, x < 8 ∨ 18 < x → I' x = I x) ∧ xSt 8 R.2 I' ∧ ∃ r : Int32, v = .int r ∧ (R.1 = true → -1 ≤ r.toInt) ∧ (¬ R.1 = true → r.toInt < -1)
theorem teX.yes {s' : pS} {I I1 : fdI} {L : fdL} {r : Int32} (f : ∀ x, x < 8 ∨ 18 < x → I1 x = I x) (hx : xSt 8 s' I1) (hr : -1 ≤ r.toInt) : fd_ip (teX (true, s') I L) (some (.int r)) I1 L := ⟨_, rfl, rfl, f, hx, r, rfl, fun _ => hr, fun z => absurd rfl z⟩
theorem teX.no {s : pS} {I : fdI} {L : fdL} {r : Int32} (hx : xSt 8 s I) (hr : r.toInt < -1) : fd_ip (teX (false, s) I L) (some (.int r)) I L := ⟨_, rfl, rfl, fun _ _ => rfl, hx, r, rfl, fun z => (by cases z), fun _ => hr⟩
theorem nI_gem {j : Nat} (h : j < 2 ^ 31) : -1 ≤ (nI j).toInt := by rw [nI_toInt h]; omega
theorem dayP_ge {x : Int32} {n : Nat} (h : dayP x n) : -1 ≤ x.toInt := by have := h.1; omega
set_option maxHeartbeats 1000000 in
theorem c_X5_tellItem (s : pS) (α : Nat → Nat) (I : fdI) (L : fdL) (w a c : Nat) (hw : w < 7) (ha : a ≤ 9) (hc : c ≤ 9) (hs : stOk s) (hx : xSt 8 s I) : Con fd_SX α yX5_tellItem mX5_tellItem [.ref (α 8), .int (nI (100 * w + 10 * a + c))] I L (fd_ip (teX (apI s (nI w) (nI a) (nI c)) I L)) := by
  refine Con.of (by decide) rfl (Nat.le_of_ble_eq_true rfl) ?_
  have hn7 := hs.n7
  have hnum := hs.num
  have e1 : nI (100 * w + 10 * a + c) / 10 = nI (10 * w + a) := by
    have := pk_div (a := 100 * w + 10 * a + c) (d := 10) (by omega) (by omega) (by omega)
    rw [show (100 * w + 10 * a + c) / 10 = 10 * w + a by omega] at this
    exact this
  have e2 : nI (10 * w + a) - nI (10 * w + a) / 10 * 10 = nI a := by
    have := pk_rem (a := 10 * w + a) (d := 10) (by omega) (by omega) (by omega)
    rw [show (10 * w + a) % 10 = a by omega] at this
    exact this
  have e3 : nI (100 * w + 10 * a + c) - nI (100 * w + 10 * a + c) / 10 * 10 = nI c := by
    have := pk_rem (a := 100 * w + 10 * a + c) (d := 10) (by omega) (by omega) (by omega)
    rw [show (100 * w + 10 * a + c) % 10 = c by omega] at this
    exact this
  have e4 : nI (100 * w + 10 * a + c) / 100 = nI w := by
    have := pk_div (a := 100 * w + 10 * a + c) (d := 100) (by omega) (by omega) (by omega)
    rw [show (100 * w + 10 * a + c) / 100 = w by omega] at this
    exact this
  have ea : (nI a).toNatClampNeg = a := nI_clamp (by omega)
  have pre : Rn fd_SX α mX5_tellItem 17 [(3, .int (nI c)), (2, .int (nI a)), (0, .ref (α 8))] [.int (nI w)] I L (fd_ip (teX (apI s (nI w) (nI a) (nI c)) I L)) → Rn fd_SX α mX5_tellItem 0 (lv_args 0 [.ref (α 8), .int (nI (100 * w + 10 * a + c))]) [] I L (fd_ip (teX (apI s (nI w) (nI a) (nI c)) I L)) := by
    intro K
    refine r_iload_n dX5_tellItem_0 rfl ?_
    refine r_bipush (v := 10) dX5_tellItem_1 rfl ?_
    refine r_idiv dX5_tellItem_3 (by decide) ?_
    rw [e1]
    refine r_bipush (v := 10) dX5_tellItem_4 rfl ?_
    refine r_irem dX5_tellItem_6 (by decide) ?_
    rw [e2]
    refine r_istore_n (lv' := [(2, _), (0, _), (1, _)]) dX5_tellItem_7 (Nat.le_of_ble_eq_true rfl) rfl ?_
    refine r_iload_n dX5_tellItem_8 rfl ?_
    refine r_bipush (v := 10) dX5_tellItem_9 rfl ?_
    refine r_irem dX5_tellItem_11 (by decide) ?_
    rw [e3]
    refine r_istore_n (lv' := [(3, _), (2, _), (0, _), (1, _)]) dX5_tellItem_12 (Nat.le_of_ble_eq_true rfl) rfl ?_
    refine r_iload_n dX5_tellItem_13 rfl ?_
    refine r_bipush (v := 100) dX5_tellItem_14 rfl ?_
    refine r_idiv dX5_tellItem_16 (by decide) ?_
    rw [e4]
    exact r_keep [3, 2, 0] rfl K
  refine pre ?_
  rcases (show w = 0 ∨ w = 1 ∨ w = 2 ∨ w = 3 ∨ w = 4 ∨ w = 5 ∨ w = 6 by omega) with rfl | rfl | rfl | rfl | rfl | rfl | rfl
  · refine r_tswIn (tgt := 60) dX5_tellItem_17 (by decide) (by decide) rfl (by decide) ?_
    by_cases hok : lifeP (nI a)
    · have hA : apI s (nI 0) (nI a) (nI c) = (true, opLife a) := (if_pos rfl).trans ((if_pos hok).trans (by rw [ea]))
      have hl := lifeP_nI hok
      rw [ea] at hl
      rw [hA]
      refine r_aload_n dX5_tellItem_60 rfl ?_
      refine r_iload_n dX5_tellItem_61 rfl ?_
      refine r_cVp (As := [_]) (c_X5_tellDays α _ _ _) lk_5_98 rfl rfl (by decide) (by decide) rfl rfl (Nat.le_of_ble_eq_true rfl) dX5_tellItem_62 (fun v62 I62 L62 q62 => ?_)
      obtain ⟨rfl, y62, -⟩ := q62
      obtain ⟨rfl, z62⟩ := y62 hok
      rw [hx.n]
      refine r_iret rfl dX5_tellItem_65 ?_
      exact teX.yes (fun x hx => z62.1 x (by omega)) (xSt.life hl.2.2 z62) (nI_gem (by omega))
    · have hA : apI s (nI 0) (nI a) (nI c) = (false, s) := (if_pos rfl).trans (if_neg hok)
      rw [hA]
      refine r_aload_n dX5_tellItem_60 rfl ?_
      refine r_iload_n dX5_tellItem_61 rfl ?_
      refine r_cVp (As := [_]) (c_X5_tellDays α _ _ _) lk_5_98 rfl rfl (by decide) (by decide) rfl rfl (Nat.le_of_ble_eq_true rfl) dX5_tellItem_62 (fun v62 I62 L62 q62 => ?_)
      obtain ⟨rfl, -, y62⟩ := q62
      obtain ⟨rfl, rfl⟩ := y62 hok
      refine r_iret rfl dX5_tellItem_65 ?_
      exact teX.no hx (by decide)
  · refine r_tswIn (tgt := 66) dX5_tellItem_17 (by decide) (by decide) rfl (by decide) ?_
    have hA0 : apI s (nI 1) (nI a) (nI c) = if dayP (nI a) s.2.1 ∧ dayP (nI c) 6 then (true, opDay s (nI a).toNatClampNeg (nI c)) else (false, s) := (if_neg (by decide)).trans (if_pos rfl)
    rw [hA0]
    by_cases hok : dayP (nI a) s.2.1 ∧ dayP (nI c) 6
    · rw [if_pos hok, ea]
      have hj : a < s.2.1 := by have := hok.1.2; rw [nI_toInt (by omega)] at this; omega
      refine r_aload_n dX5_tellItem_66 rfl ?_
      refine r_iload_n dX5_tellItem_67 rfl ?_
      refine r_iload_n dX5_tellItem_68 rfl ?_
      refine r_cVr (As := [_, _]) (c_X5_tellKind α _ _ _ _ hx.n hn7) lk_5_101 rfl rfl (by decide) (by decide) rfl rfl (Nat.le_of_ble_eq_true rfl) dX5_tellItem_69 ?_
      rw [if_pos hok, if_pos hok, ea, (hx.kind hj).1]
      refine r_iret rfl dX5_tellItem_72 ?_
      exact teX.yes (fun x hx => by rw [fd_up_cell (by omega), fd_up_cell (by omega)]) hx.day (dayP_ge (hs.v.1 a hj).1)
    · rw [if_neg hok]
      refine r_aload_n dX5_tellItem_66 rfl ?_
      refine r_iload_n dX5_tellItem_67 rfl ?_
      refine r_iload_n dX5_tellItem_68 rfl ?_
      refine r_cVr (As := [_, _]) (c_X5_tellKind α _ _ _ _ hx.n hn7) lk_5_101 rfl rfl (by decide) (by decide) rfl rfl (Nat.le_of_ble_eq_true rfl) dX5_tellItem_69 ?_
      rw [if_neg hok, if_neg hok]
      refine r_iret rfl dX5_tellItem_72 ?_
      exact teX.no hx (by decide)
  · refine r_tswIn (tgt := 73) dX5_tellItem_17 (by decide) (by decide) rfl (by decide) ?_
    have hA0 : apI s (nI 2) (nI a) (nI c) = if dayP (nI a) s.2.1 ∧ dayP (nI c) 6 ∧ fcB s (nI a).toNatClampNeg 0 (nI c) = false then (true, opFact s (nI a).toNatClampNeg 0 (nI c)) else (false, s) := (if_neg (by decide)).trans ((if_neg (by decide)).trans (if_pos rfl))
    rw [hA0, ea]
    by_cases hok : dayP (nI a) s.2.1 ∧ dayP (nI c) 6
    · have hj : a < s.2.1 := by have := hok.1.2; rw [nI_toInt (by omega)] at this; omega
      have h3 : dayP (nI a) s.2.1 ∧ dayP 0 2 ∧ dayP (nI c) 6 := ⟨hok.1, by decide, hok.2⟩
      have ex : fxH I (nI a) 0 = s.1 2 a := by unfold fxH; rw [ea]; exact (hx.kind hj).2.1
      have ex2 : I (10 + 0) a = s.1 2 a := (hx.kind hj).2.1
      by_cases hb : (s.1 2 a >>> (nI c &&& 31)) &&& 1 = 1
      · have hf : fcB s a 0 (nI c) = true := decide_eq_true hb
        rw [if_neg (fun z => by rw [hf] at z; cases z.2.2)]
        refine r_aload_n dX5_tellItem_73 rfl ?_
        refine r_iload_n dX5_tellItem_74 rfl ?_
        refine r_iconst (v := 0) dX5_tellItem_75 rfl ?_
        refine r_iload_n dX5_tellItem_76 rfl ?_
        refine r_iconst (v := 1) dX5_tellItem_77 rfl ?_
        refine r_cVr (As := [_, _, _, _]) (c_X5_tellFact α _ _ _ _ _ _ (Or.inr rfl) hx.n hn7) lk_5_105 rfl rfl (by decide) (by decide) rfl rfl (Nat.le_of_ble_eq_true rfl) dX5_tellItem_78 ?_
        rw [if_pos h3, ex, fd_b_t hb, if_pos rfl, if_neg (fun z => z.2 rfl)]
        refine r_iret rfl dX5_tellItem_81 ?_
        exact teX.no hx (by decide)
      · have hf : fcB s a 0 (nI c) = false := decide_eq_false hb
        rw [if_pos ⟨hok.1, hok.2, hf⟩]
        refine r_aload_n dX5_tellItem_73 rfl ?_
        refine r_iload_n dX5_tellItem_74 rfl ?_
        refine r_iconst (v := 0) dX5_tellItem_75 rfl ?_
        refine r_iload_n dX5_tellItem_76 rfl ?_
        refine r_iconst (v := 1) dX5_tellItem_77 rfl ?_
        refine r_cVr (As := [_, _, _, _]) (c_X5_tellFact α _ _ _ _ _ _ (Or.inr rfl) hx.n hn7) lk_5_105 rfl rfl (by decide) (by decide) rfl rfl (Nat.le_of_ble_eq_true rfl) dX5_tellItem_78 ?_
        rw [if_pos h3, ex, fd_b_f hb, if_neg (by decide), if_pos ⟨h3, by decide⟩, ← ex2, show (0 : Int32).toNatClampNeg = 0 from rfl, ea]
        refine r_iret rfl dX5_tellItem_81 ?_
        exact teX.yes (fun x hx => by rw [fd_up_cell (by omega), fd_up_cell (by omega)]) (hx.fact (w := 0) (by decide) hj) (by decide)
    · rw [if_neg (fun z => hok ⟨z.1, z.2.1⟩)]
      refine r_aload_n dX5_tellItem_73 rfl ?_
      refine r_iload_n dX5_tellItem_74 rfl ?_
      refine r_iconst (v := 0) dX5_tellItem_75 rfl ?_
      refine r_iload_n dX5_tellItem_76 rfl ?_
      refine r_iconst (v := 1) dX5_tellItem_77 rfl ?_
      refine r_cVr (As := [_, _, _, _]) (c_X5_tellFact α _ _ _ _ _ _ (Or.inr rfl) hx.n hn7) lk_5_105 rfl rfl (by decide) (by decide) rfl rfl (Nat.le_of_ble_eq_true rfl) dX5_tellItem_78 ?_
      rw [if_neg (fun z => hok ⟨z.1, z.2.2⟩), if_neg (fun z => hok ⟨z.1.1, z.1.2.2⟩)]
      refine r_iret rfl dX5_tellItem_81 ?_
      exact teX.no hx (by decide)
  · refine r_tswIn (tgt := 82) dX5_tellItem_17 (by decide) (by decide) rfl (by decide) ?_
    have hA0 : apI s (nI 3) (nI a) (nI c) = if dayP (nI a) s.2.1 ∧ dayP (nI c) 6 ∧ fcB s (nI a).toNatClampNeg 1 (nI c) = false then (true, opFact s (nI a).toNatClampNeg 1 (nI c)) else (false, s) := (if_neg (by decide)).trans ((if_neg (by decide)).trans ((if_neg (by decide)).trans (if_pos rfl)))
    rw [hA0, ea]
    by_cases hok : dayP (nI a) s.2.1 ∧ dayP (nI c) 6
    · have hj : a < s.2.1 := by have := hok.1.2; rw [nI_toInt (by omega)] at this; omega
      have h3 : dayP (nI a) s.2.1 ∧ dayP 1 2 ∧ dayP (nI c) 6 := ⟨hok.1, by decide, hok.2⟩
      have ex : fxH I (nI a) 1 = s.1 3 a := by unfold fxH; rw [ea]; exact (hx.kind hj).2.2.1
      have ex2 : I (10 + 1) a = s.1 3 a := (hx.kind hj).2.2.1
      by_cases hb : (s.1 3 a >>> (nI c &&& 31)) &&& 1 = 1
      · have hf : fcB s a 1 (nI c) = true := decide_eq_true hb
        rw [if_neg (fun z => by rw [hf] at z; cases z.2.2)]
        refine r_aload_n dX5_tellItem_82 rfl ?_
        refine r_iload_n dX5_tellItem_83 rfl ?_
        refine r_iconst (v := 1) dX5_tellItem_84 rfl ?_
        refine r_iload_n dX5_tellItem_85 rfl ?_
        refine r_iconst (v := 1) dX5_tellItem_86 rfl ?_
        refine r_cVr (As := [_, _, _, _]) (c_X5_tellFact α _ _ _ _ _ _ (Or.inr rfl) hx.n hn7) lk_5_105 rfl rfl (by decide) (by decide) rfl rfl (Nat.le_of_ble_eq_true rfl) dX5_tellItem_87 ?_
        rw [if_pos h3, ex, fd_b_t hb, if_pos rfl, if_neg (fun z => z.2 rfl)]
        refine r_iret rfl dX5_tellItem_90 ?_
        exact teX.no hx (by decide)
      · have hf : fcB s a 1 (nI c) = false := decide_eq_false hb
        rw [if_pos ⟨hok.1, hok.2, hf⟩]
        refine r_aload_n dX5_tellItem_82 rfl ?_
        refine r_iload_n dX5_tellItem_83 rfl ?_
        refine r_iconst (v := 1) dX5_tellItem_84 rfl ?_
        refine r_iload_n dX5_tellItem_85 rfl ?_
        refine r_iconst (v := 1) dX5_tellItem_86 rfl ?_
        refine r_cVr (As := [_, _, _, _]) (c_X5_tellFact α _ _ _ _ _ _ (Or.inr rfl) hx.n hn7) lk_5_105 rfl rfl (by decide) (by decide) rfl rfl (Nat.le_of_ble_eq_true rfl) dX5_tellItem_87 ?_
        rw [if_pos h3, ex, fd_b_f hb, if_neg (by decide), if_pos ⟨h3, by decide⟩, ← ex2, show (1 : Int32).toNatClampNeg = 1 from rfl, ea]
        refine r_iret rfl dX5_tellItem_90 ?_
        exact teX.yes (fun x hx => by rw [fd_up_cell (by omega), fd_up_cell (by omega)]) (hx.fact (w := 1) (by decide) hj) (by decide)
    · rw [if_neg (fun z => hok ⟨z.1, z.2.1⟩)]
      refine r_aload_n dX5_tellItem_82 rfl ?_
      refine r_iload_n dX5_tellItem_83 rfl ?_
      refine r_iconst (v := 1) dX5_tellItem_84 rfl ?_
      refine r_iload_n dX5_tellItem_85 rfl ?_
      refine r_iconst (v := 1) dX5_tellItem_86 rfl ?_
      refine r_cVr (As := [_, _, _, _]) (c_X5_tellFact α _ _ _ _ _ _ (Or.inr rfl) hx.n hn7) lk_5_105 rfl rfl (by decide) (by decide) rfl rfl (Nat.le_of_ble_eq_true rfl) dX5_tellItem_87 ?_
      rw [if_neg (fun z => hok ⟨z.1, z.2.2⟩), if_neg (fun z => hok ⟨z.1.1, z.1.2.2⟩)]
      refine r_iret rfl dX5_tellItem_90 ?_
      exact teX.no hx (by decide)
  · refine r_tswIn (tgt := 91) dX5_tellItem_17 (by decide) (by decide) rfl (by decide) ?_
    have hA0 : apI s (nI 4) (nI a) (nI c) = if dayP (nI a) s.2.1 ∧ dayP (nI c) 6 ∧ isNP s (nI a) (nI c) = false ∧ s.2.2.1 < 6 then (true, opNote s (nI a) (nI c)) else (false, s) := (if_neg (by decide)).trans ((if_neg (by decide)).trans ((if_neg (by decide)).trans ((if_neg (by decide)).trans (if_pos rfl))))
    rw [hA0]
    have hV : ∀ i, i < s.2.2.1 → dayP (I 15 i) 6 := fun i hi => by
      have a2 : I 15 i = s.1 7 i := (hx.agr.2.1 i hi).2
      rw [a2]; exact (hs.v.2.1 i hi).2
    by_cases hok : dayP (nI a) s.2.1 ∧ dayP (nI c) 6
    · cases hq : isNP s (nI a) (nI c) with
      | true =>
        rw [if_neg (fun z => by cases z.2.2.1)]
        refine r_aload_n dX5_tellItem_91 rfl ?_
        refine r_iload_n dX5_tellItem_92 rfl ?_
        refine r_iload_n dX5_tellItem_93 rfl ?_
        refine r_cVr (As := [_, _]) (c_X5_tellNote α _ _ _ _ hx.n hn7 hx.num.1 hnum.1 hV) lk_5_109 rfl rfl (by decide) (by decide) rfl rfl (Nat.le_of_ble_eq_true rfl) dX5_tellItem_94 ?_
        rw [isNP_x hx, hq, if_pos hok, if_pos rfl, if_neg (fun z => absurd z.2.1 (by decide))]
        refine r_iret rfl dX5_tellItem_97 ?_
        exact teX.no hx (by decide)
      | false =>
        by_cases h6 : s.2.2.1 = 6
        · rw [if_neg (fun z => by have := z.2.2.2; omega)]
          refine r_aload_n dX5_tellItem_91 rfl ?_
          refine r_iload_n dX5_tellItem_92 rfl ?_
          refine r_iload_n dX5_tellItem_93 rfl ?_
          refine r_cVr (As := [_, _]) (c_X5_tellNote α _ _ _ _ hx.n hn7 hx.num.1 hnum.1 hV) lk_5_109 rfl rfl (by decide) (by decide) rfl rfl (Nat.le_of_ble_eq_true rfl) dX5_tellItem_94 ?_
          rw [isNP_x hx, hq, if_pos hok, if_neg (by decide), if_pos h6, if_neg (fun z => z.2.2 h6)]
          refine r_iret rfl dX5_tellItem_97 ?_
          exact teX.no hx (by decide)
        · rw [if_pos ⟨hok.1, hok.2, rfl, by omega⟩]
          refine r_aload_n dX5_tellItem_91 rfl ?_
          refine r_iload_n dX5_tellItem_92 rfl ?_
          refine r_iload_n dX5_tellItem_93 rfl ?_
          refine r_cVr (As := [_, _]) (c_X5_tellNote α _ _ _ _ hx.n hn7 hx.num.1 hnum.1 hV) lk_5_109 rfl rfl (by decide) (by decide) rfl rfl (Nat.le_of_ble_eq_true rfl) dX5_tellItem_94 ?_
          rw [isNP_x hx, hq, if_pos hok, if_neg (by decide), if_neg h6, if_pos ⟨hok, rfl, h6⟩]
          refine r_iret rfl dX5_tellItem_97 ?_
          exact teX.yes (fun x hx => by rw [fd_up_cell (by omega), fd_up_cell (by omega), fd_up_cell (by omega), fd_up_cell (by omega)]) hx.note (nI_gem (by omega))
    · rw [if_neg (fun z => hok ⟨z.1, z.2.1⟩)]
      refine r_aload_n dX5_tellItem_91 rfl ?_
      refine r_iload_n dX5_tellItem_92 rfl ?_
      refine r_iload_n dX5_tellItem_93 rfl ?_
      refine r_cVr (As := [_, _]) (c_X5_tellNote α _ _ _ _ hx.n hn7 hx.num.1 hnum.1 hV) lk_5_109 rfl rfl (by decide) (by decide) rfl rfl (Nat.le_of_ble_eq_true rfl) dX5_tellItem_94 ?_
      rw [if_neg hok, if_neg (fun z => hok z.1)]
      refine r_iret rfl dX5_tellItem_97 ?_
      exact teX.no hx (by decide)
  · refine r_tswIn (tgt := 98) dX5_tellItem_17 (by decide) (by decide) rfl (by decide) ?_
    have hA0 : apI s (nI 5) (nI a) (nI c) = if dayP (nI a) s.2.1 ∧ dayP (nI c) s.2.1 ∧ ¬ nI a = nI c ∧ s.2.2.2.1 < 6 then (true, opAhead s (nI a) (nI c)) else (false, s) := (if_neg (by decide)).trans ((if_neg (by decide)).trans ((if_neg (by decide)).trans ((if_neg (by decide)).trans ((if_neg (by decide)).trans (if_pos rfl)))))
    rw [hA0]
    by_cases hok : dayP (nI a) s.2.1 ∧ dayP (nI c) s.2.1 ∧ ¬ nI a = nI c
    · by_cases h6 : s.2.2.2.1 = 6
      · rw [if_neg (fun z => by have := z.2.2.2; omega)]
        refine r_aload_n dX5_tellItem_98 rfl ?_
        refine r_iload_n dX5_tellItem_99 rfl ?_
        refine r_iload_n dX5_tellItem_100 rfl ?_
        refine r_cVr (As := [_, _]) (c_X5_tellPair α _ _ _ _ hx.n hn7 hx.num.2.1 hnum.2.1) lk_5_112 rfl rfl (by decide) (by decide) rfl rfl (Nat.le_of_ble_eq_true rfl) dX5_tellItem_101 ?_
        unfold ahR
        rw [if_pos hok, if_pos h6, if_neg (fun z => z.2 h6)]
        refine r_iret rfl dX5_tellItem_104 ?_
        exact teX.no hx (by decide)
      · rw [if_pos ⟨hok.1, hok.2.1, hok.2.2, by omega⟩]
        refine r_aload_n dX5_tellItem_98 rfl ?_
        refine r_iload_n dX5_tellItem_99 rfl ?_
        refine r_iload_n dX5_tellItem_100 rfl ?_
        refine r_cVr (As := [_, _]) (c_X5_tellPair α _ _ _ _ hx.n hn7 hx.num.2.1 hnum.2.1) lk_5_112 rfl rfl (by decide) (by decide) rfl rfl (Nat.le_of_ble_eq_true rfl) dX5_tellItem_101 ?_
        unfold ahR
        rw [if_pos hok, if_neg h6, if_pos ⟨hok, h6⟩]
        refine r_iret rfl dX5_tellItem_104 ?_
        exact teX.yes (fun x hx => by rw [fd_up_cell (by omega), fd_up_cell (by omega), fd_up_cell (by omega)]) hx.ahead (nI_gem (by omega))
    · rw [if_neg (fun z => hok ⟨z.1, z.2.1, z.2.2.1⟩)]
      refine r_aload_n dX5_tellItem_98 rfl ?_
      refine r_iload_n dX5_tellItem_99 rfl ?_
      refine r_iload_n dX5_tellItem_100 rfl ?_
      refine r_cVr (As := [_, _]) (c_X5_tellPair α _ _ _ _ hx.n hn7 hx.num.2.1 hnum.2.1) lk_5_112 rfl rfl (by decide) (by decide) rfl rfl (Nat.le_of_ble_eq_true rfl) dX5_tellItem_101 ?_
      unfold ahR
      rw [if_neg hok, if_neg (fun z => hok z.1)]
      refine r_iret rfl dX5_tellItem_104 ?_
      exact teX.no hx (by decide)
  · refine r_tswIn (tgt := 105) dX5_tellItem_17 (by decide) (by decide) rfl (by decide) ?_
    have hA0 : apI s (nI 6) (nI a) (nI c) = if dayP (nI a) s.2.1 ∧ (nI c = -1 ∨ dayP (nI c) s.2.1) then (true, opAt s (nI a).toNatClampNeg (nI c)) else (false, s) := (if_neg (by decide)).trans ((if_neg (by decide)).trans ((if_neg (by decide)).trans ((if_neg (by decide)).trans ((if_neg (by decide)).trans (if_neg (by decide))))))
    rw [hA0]
    by_cases hok : dayP (nI a) s.2.1 ∧ (nI c = -1 ∨ dayP (nI c) s.2.1)
    · rw [if_pos hok, ea]
      have hj : a < s.2.1 := by have := hok.1.2; rw [nI_toInt (by omega)] at this; omega
      refine r_aload_n dX5_tellItem_105 rfl ?_
      refine r_iload_n dX5_tellItem_106 rfl ?_
      refine r_iload_n dX5_tellItem_107 rfl ?_
      refine r_cVr (As := [_, _]) (c_X5_tellPlace α _ _ _ _ hx.n hn7) lk_5_115 rfl rfl (by decide) (by decide) rfl rfl (Nat.le_of_ble_eq_true rfl) dX5_tellItem_108 ?_
      rw [if_pos hok, if_pos hok, ea, (hx.kind hj).2.2.2.1]
      refine r_iret rfl dX5_tellItem_111 ?_
      exact teX.yes (fun x hx => by rw [fd_up_cell (by omega)]) hx.at (by rcases (hs.v.1 a hj).2.2.2.1 with z | z; rw [z]; decide; exact dayP_ge z)
    · rw [if_neg hok]
      refine r_aload_n dX5_tellItem_105 rfl ?_
      refine r_iload_n dX5_tellItem_106 rfl ?_
      refine r_iload_n dX5_tellItem_107 rfl ?_
      refine r_cVr (As := [_, _]) (c_X5_tellPlace α _ _ _ _ hx.n hn7) lk_5_115 rfl rfl (by decide) (by decide) rfl rfl (Nat.le_of_ble_eq_true rfl) dX5_tellItem_108 ?_
      rw [if_neg hok, if_neg hok]
      refine r_iret rfl dX5_tellItem_111 ?_
      exact teX.no hx (by decide)
/-- read's end -/
def rdA (s : pS) (T : Nat → Int32) (b : Nat) : Int32 × pS := if (rdG T b 60 0).1 = false then (-10 - nI (rdG T b 60 0).2, s) else if (apR (imW T b) (imA T b) (imB T b) (rdG T b 60 0).2 0 s).1 < (rdG T b 60 0).2 then (-1000 - nI (apR (imW T b) (imA T b) (imB T b) (rdG T b 60 0).2 0 s).1, s) else (nI (rdG T b 60 0).2, (apR (imW T b) (imA T b) (imB T b) (rdG T b 60 0).2 0 s).2)
def rdX (A : Int32 × pS) (I : fdI) (L : fdL) (v : Value) (I' : fdI) (L' : fdL) : Prop := L' = L ∧ v = .int A.1 ∧ xSt 8 A.2 I' ∧ (∀ a, a < 8 ∨ (29 < a ∧ a ≠ 54 ∧ a ≠ 55) → I' a = I a) ∧ I' 54 0 = I 54 0
theorem c_X10_read (s : pS) (T : Nat → Int32) (α : Nat → Nat) (I : fdI) (L : fdL) {b : Nat} (hb : b ≤ 150) (h : txX T b I) (hs : stOk s) (hD : stD s) (hx : xSt 8 s I) : Con fd_SX α yX10_read mX10_read [.ref (α 0)] I L (fd_ip (rdX (rdA s T b) I L)) := by
  refine Con.of (by decide) rfl (Nat.le_of_ble_eq_true rfl) ?_
  cases hG : (rdG T b 60 0).1 with
  | false =>
    have hA : rdA s T b = (-10 - nI (rdG T b 60 0).2, s) := if_pos hG
    rw [hA]
    refine r_aload_n dX10_read_0 rfl ?_
    refine r_getR rfl rfl fl_10_36 dX10_read_1 ?_
    refine r_cVp (As := []) (c_X9_findFault T α _ _ hb h) lk_10_127 rfl rfl (by decide) (by decide) rfl rfl (Nat.le_of_ble_eq_true rfl) dX10_read_4 (fun v4 I4 L4 q4 => ?_)
    obtain ⟨rfl, u1, u2, u3, u4⟩ := q4
    obtain ⟨rfl, u5⟩ := u3 hG
    refine r_istore_n (lv' := [(1, _), (0, _)]) dX10_read_7 (Nat.le_of_ble_eq_true rfl) rfl ?_
    refine r_iload_n dX10_read_8 rfl ?_
    refine r_iconst (v := (-1)) dX10_read_9 rfl ?_
    refine r_icmp_eq 18 dX10_read_10 (by decide) (fun h10 => absurd h10 (nI_n1 (by omega))) (fun h10 => ?_)
    refine r_bipush (v := (-10)) dX10_read_13 rfl ?_
    refine r_iload_n dX10_read_15 rfl ?_
    refine r_isub dX10_read_16 ?_
    refine r_iret rfl dX10_read_17 ?_
    exact ⟨_, rfl, rfl, rfl, hx.same (fun a _ a2 => u1 a (by omega) (by omega)), fun a ha => u1 a (by omega) (by omega), u2⟩
  | true =>
    generalize hK : (rdG T b 60 0).2 = K
    have hA0 : rdA s T b = if (apR (imW T b) (imA T b) (imB T b) K 0 s).1 < K then (-1000 - nI (apR (imW T b) (imA T b) (imB T b) K 0 s).1, s) else (nI K, (apR (imW T b) (imA T b) (imB T b) K 0 s).2) := by
      unfold rdA
      rw [if_neg (by rw [hG]; decide), hK]
    rw [hA0]
    have loop : ∀ m i, i + m = K → K ≤ 30 → ∀ si, stOk si → stD si → apR (imW T b) (imA T b) (imB T b) m i si = apR (imW T b) (imA T b) (imB T b) K 0 s → ∀ I1 : fdI, xSt 8 si I1 → xSt 19 s I1 → (∀ a, a < 8 ∨ (29 < a ∧ a ≠ 54 ∧ a ≠ 55) → I1 a = I a) → I1 54 0 = I 54 0 → I1 54 1 = nI K → (∀ i, i < K → I1 55 i = itV T b (psF T b i) ∧ ∃ w a c, w < 7 ∧ a ≤ 9 ∧ c ≤ 9 ∧ imW T b i = nI w ∧ imA T b i = nI a ∧ imB T b i = nI c) → Rn fd_SX α mX10_read 31 [(2, .int (nI i)), (0, .ref (α 0))] [] I1 L (fd_ip (rdX (if (apR (imW T b) (imA T b) (imB T b) K 0 s).1 < K then (-1000 - nI (apR (imW T b) (imA T b) (imB T b) K 0 s).1, s) else (nI K, (apR (imW T b) (imA T b) (imB T b) K 0 s).2)) I L)) := by
      intro m
      induction m with
      | zero =>
        intro i hi hK30 si _ _ hap I1 x1 y1 f1 f2 f3 f4
        have hap : (i, si) = apR (imW T b) (imA T b) (imB T b) K 0 s := hap
        rw [← hap, if_neg (by show ¬ i < K; omega)]
        refine r_iload_n dX10_read_31 rfl ?_
        refine r_aload_n dX10_read_32 rfl ?_
        refine r_getR rfl rfl fl_10_36 dX10_read_33 ?_
        refine r_getV rfl rfl fl_10_135 dX10_read_36 f3 ?_
        refine r_icmp_ge 85 dX10_read_39 (by decide) (fun h39 => ?_) (fun h39 => absurd h39 (not_not_intro (by rw [show i = K by omega]; exact Int32.le_refl _)))
        refine r_aload_n dX10_read_85 rfl ?_
        refine r_getR rfl rfl fl_10_36 dX10_read_86 ?_
        refine r_getV rfl rfl fl_10_135 dX10_read_89 f3 ?_
        refine r_iret rfl dX10_read_92 ?_
        exact ⟨_, rfl, rfl, rfl, x1, f1, f2⟩
      | succ m ih =>
        intro i hi hK30 si hsi hDi hap I1 x1 y1 f1 f2 f3 f4
        obtain ⟨ev, w, a, c, hw, ha, hc, ew, eA, eB⟩ := f4 i (by omega)
        have ev2 : I1 55 i = nI (100 * w + 10 * a + c) := by
          rw [ev]
          unfold itV
          rw [show itW T b (psF T b i) = nI w from ew, show T (itA T b (psF T b i)) - 48 = nI a from eA]
          have eB : (if itW T b (psF T b i) = 0 then 0 else T (itB T b (psF T b i)) - 48) = nI c := eB
          rw [show itW T b (psF T b i) = nI w from ew] at eB
          rw [eB, show (100 : Int32) * nI w = nI (100 * w) from pk_mul 100 w, show (10 : Int32) * nI a = nI (10 * a) from pk_mul 10 a, nI_add, nI_add]
        have hok2 := apI_ok (w := nI w) (a := nI a) (b := nI c) hsi hDi
        by_cases hok : (apI si (nI w) (nI a) (nI c)).1 = true
        · have hap2 : apR (imW T b) (imA T b) (imB T b) m (i + 1) (apI si (nI w) (nI a) (nI c)).2 = apR (imW T b) (imA T b) (imB T b) K 0 s := by
            rw [← hap, ← ew, ← eA, ← eB]
            exact (apR_go (by rw [ew, eA, eB]; exact hok)).symm
          refine r_iload_n dX10_read_31 rfl ?_
          refine r_aload_n dX10_read_32 rfl ?_
          refine r_getR rfl rfl fl_10_36 dX10_read_33 ?_
          refine r_getV rfl rfl fl_10_135 dX10_read_36 f3 ?_
          refine r_icmp_ge 85 dX10_read_39 (by decide) (fun h39 => absurd h39 (fun q => absurd ((nI_leI (by omega) (by omega)).mp q) (by omega))) (fun h39 => ?_)
          refine r_aload_n dX10_read_42 rfl ?_
          refine r_getR rfl rfl fl_10_18 dX10_read_43 ?_
          refine r_aload_n dX10_read_46 rfl ?_
          refine r_getR rfl rfl fl_10_36 dX10_read_47 ?_
          refine r_getR rfl rfl fl_10_138 dX10_read_50 ?_
          refine r_iload_n dX10_read_53 rfl ?_
          refine r_ialdN rfl dX10_read_54 (by omega) (by omega) ev2 ?_
          refine r_cVp (As := [_]) (c_X5_tellItem si α _ _ w a c hw ha hc hsi x1) lk_10_141 rfl rfl (by decide) (by decide) rfl rfl (Nat.le_of_ble_eq_true rfl) dX10_read_55 (fun v55 I55 L55 q55 => ?_)
          obtain ⟨rfl, u1, u2, r, rfl, u3, u4⟩ := q55
          refine r_iconst (v := (-1)) dX10_read_58 rfl ?_
          refine r_icmp_ge 79 dX10_read_59 (by decide) (fun h59 => ?_) (fun h59 => absurd h59 (not_not_intro (Int32.le_iff_toInt_le.mpr (u3 hok))))
          refine r_iinc (v := _ + 1) (lv' := [(2, _), (0, _)]) dX10_read_79 rfl rfl (Nat.le_of_ble_eq_true rfl) rfl ?_
          refine r_goto (tgt := 31) dX10_read_82 (by decide) ?_
          rw [nI_1]
          exact r_keep [2, 0] rfl (ih (i + 1) (by omega) hK30 _ hok2.1 hok2.2 hap2 _ u2 (y1.same (fun a a1 a2 => u1 a (by omega))) (fun a ha => (u1 a (by omega)).trans (f1 a ha)) (by rw [u1 54 (by decide)]; exact f2) (by rw [u1 54 (by decide)]; exact f3) (by rw [u1 55 (by decide)]; exact f4))
        · have hap2 : apR (imW T b) (imA T b) (imB T b) K 0 s = (i, si) := by
            rw [← hap]
            exact apR_stop (by rw [ew, eA, eB]; exact hok)
          rw [hap2, if_pos (by show i < K; omega)]
          refine r_iload_n dX10_read_31 rfl ?_
          refine r_aload_n dX10_read_32 rfl ?_
          refine r_getR rfl rfl fl_10_36 dX10_read_33 ?_
          refine r_getV rfl rfl fl_10_135 dX10_read_36 f3 ?_
          refine r_icmp_ge 85 dX10_read_39 (by decide) (fun h39 => absurd h39 (fun q => absurd ((nI_leI (by omega) (by omega)).mp q) (by omega))) (fun h39 => ?_)
          refine r_aload_n dX10_read_42 rfl ?_
          refine r_getR rfl rfl fl_10_18 dX10_read_43 ?_
          refine r_aload_n dX10_read_46 rfl ?_
          refine r_getR rfl rfl fl_10_36 dX10_read_47 ?_
          refine r_getR rfl rfl fl_10_138 dX10_read_50 ?_
          refine r_iload_n dX10_read_53 rfl ?_
          refine r_ialdN rfl dX10_read_54 (by omega) (by omega) ev2 ?_
          refine r_cVp (As := [_]) (c_X5_tellItem si α _ _ w a c hw ha hc hsi x1) lk_10_141 rfl rfl (by decide) (by decide) rfl rfl (Nat.le_of_ble_eq_true rfl) dX10_read_55 (fun v55 I55 L55 q55 => ?_)
          obtain ⟨rfl, u1, u2, r, rfl, u3, u4⟩ := q55
          refine r_iconst (v := (-1)) dX10_read_58 rfl ?_
          refine r_icmp_ge 79 dX10_read_59 (by decide) (fun h59 => absurd h59 (fun q => absurd (Int32.le_iff_toInt_le.mp q) (by have := u4 hok; rw [show (-1 : Int32).toInt = -1 from rfl]; omega))) (fun h59 => ?_)
          refine r_aload_n dX10_read_62 rfl ?_
          refine r_getR rfl rfl fl_10_18 dX10_read_63 ?_
          refine r_aload_n dX10_read_66 rfl ?_
          refine r_getR rfl rfl fl_10_22 dX10_read_67 ?_
          refine r_cVq (As := [_]) (c_X5_copy_8_19 α _ _) lk_10_131 rfl rfl (by decide) (by decide) rfl rfl (Nat.le_of_ble_eq_true rfl) dX10_read_70 (fun I70 L70 q70 => ?_)
          obtain ⟨rfl, y70⟩ := q70
          refine r_sipush (v := (-1000)) dX10_read_73 rfl ?_
          refine r_iload_n dX10_read_76 rfl ?_
          refine r_isub dX10_read_77 ?_
          refine r_iret rfl dX10_read_78 ?_
          exact ⟨_, rfl, rfl, rfl, xSt.copy (c := 19) hs (y1.same (fun a a1 a2 => u1 a (by omega))) y70, fun a ha => (y70.1 a (by omega)).trans ((u1 a (by omega)).trans (f1 a ha)), by rw [y70.1 54 (by decide), u1 54 (by decide)]; exact f2⟩
    refine r_aload_n dX10_read_0 rfl ?_
    refine r_getR rfl rfl fl_10_36 dX10_read_1 ?_
    refine r_cVp (As := []) (c_X9_findFault T α _ _ hb h) lk_10_127 rfl rfl (by decide) (by decide) rfl rfl (Nat.le_of_ble_eq_true rfl) dX10_read_4 (fun v4 I4 L4 q4 => ?_)
    obtain ⟨rfl, u1, u2, u3, u4⟩ := q4
    rw [hK] at u4
    obtain ⟨rfl, u5, u6, u7⟩ := u4 hG
    have x4 : xSt 8 s I4 := hx.same (fun a _ a2 => u1 a (by omega) (by omega))
    refine r_istore_n (lv' := [(1, _), (0, _)]) dX10_read_7 (Nat.le_of_ble_eq_true rfl) rfl ?_
    refine r_iload_n dX10_read_8 rfl ?_
    refine r_iconst (v := (-1)) dX10_read_9 rfl ?_
    refine r_icmp_eq 18 dX10_read_10 (by decide) (fun h10 => ?_) (fun h10 => absurd h10 (not_not_intro rfl))
    refine r_aload_n dX10_read_18 rfl ?_
    refine r_getR rfl rfl fl_10_22 dX10_read_19 ?_
    refine r_aload_n dX10_read_22 rfl ?_
    refine r_getR rfl rfl fl_10_18 dX10_read_23 ?_
    refine r_cVq (As := [_]) (c_X5_copy_19_8 α _ _) lk_10_131 rfl rfl (by decide) (by decide) rfl rfl (Nat.le_of_ble_eq_true rfl) dX10_read_26 (fun I26 L26 q26 => ?_)
    obtain ⟨rfl, y26⟩ := q26
    refine r_iconst (v := 0) dX10_read_29 rfl ?_
    refine r_istore_n (lv' := [(2, _), (1, _), (0, _)]) dX10_read_30 (Nat.le_of_ble_eq_true rfl) rfl ?_
    refine r_keep [2, 0] rfl (loop K 0 (by omega) u6 s hs hD rfl _ (x4.same (fun a a1 a2 => y26.1 a (by omega))) (xSt.copy (c := 8) hs x4 y26) (fun a ha => (y26.1 a (by omega)).trans (u1 a (by omega) (by omega))) (by rw [y26.1 54 (by decide)]; exact u2) (by rw [y26.1 54 (by decide)]; exact u5) (by rw [y26.1 55 (by decide)]; exact u7))
