/-! the model: the items are told -/
def isNP (s : pS) (d f : Int32) : Bool := orB (fun k => s.1 6 k = d && s.1 7 k = f) s.2.2.1
def fcB (s : pS) (d w : Nat) (f : Int32) : Bool := (s.1 (2 + w) d >>> (f &&& 31)) &&& 1 = 1
/-- an item is told: whether it is taken, and the life then -/
def apI (s : pS) (w a b : Int32) : Bool × pS :=
  if w = 0 then (if lifeP a then (true, opLife a.toNatClampNeg) else (false, s))
  else if w = 1 then (if dayP a s.2.1 ∧ dayP b 6 then (true, opDay s a.toNatClampNeg b) else (false, s))
  else if w = 2 then (if dayP a s.2.1 ∧ dayP b 6 ∧ fcB s a.toNatClampNeg 0 b = false then (true, opFact s a.toNatClampNeg 0 b) else (false, s))
  else if w = 3 then (if dayP a s.2.1 ∧ dayP b 6 ∧ fcB s a.toNatClampNeg 1 b = false then (true, opFact s a.toNatClampNeg 1 b) else (false, s))
  else if w = 4 then (if dayP a s.2.1 ∧ dayP b 6 ∧ isNP s a b = false ∧ s.2.2.1 < 6 then (true, opNote s a b) else (false, s))
  else if w = 5 then (if dayP a s.2.1 ∧ dayP b s.2.1 ∧ ¬ a = b ∧ s.2.2.2.1 < 6 then (true, opAhead s a b) else (false, s))
  else (if dayP a s.2.1 ∧ (b = -1 ∨ dayP b s.2.1) then (true, opAt s a.toNatClampNeg b) else (false, s))
/-- what telling may change of the model's cells -/
def doP (I I' : fdI) : Prop := (∀ a, a ≠ 0 → (a = 0 ∨ 12 < a) → I' a = I a) ∧ ∀ j, j ≠ 1 → j ≠ 7 → j ≠ 10 → j ≠ 13 → j ≠ 16 → j ≠ 17 → I' 0 j = I 0 j
theorem doP.rfl' {I : fdI} : doP I I := ⟨fun _ _ _ => rfl, fun _ _ _ _ _ _ _ => rfl⟩
theorem doP.trans {I J K : fdI} (h : doP I J) (h2 : doP J K) : doP I K := ⟨fun a a0 a1 => (h2.1 a a0 a1).trans (h.1 a a0 a1), fun j j1 j2 j3 j4 j5 j6 => (h2.2 j j1 j2 j3 j4 j5 j6).trans (h.2 j j1 j2 j3 j4 j5 j6)⟩
theorem doP.row {I J : fdI} {k i : Nat} {v : Int32} (h : doP I J) (hk : 1 ≤ k ∧ k ≤ 12) : doP I (fd_up J k i v) := ⟨fun a a0 a1 => by rw [fd_up_cell (by omega)]; exact h.1 a a0 a1, fun j j1 j2 j3 j4 j5 j6 => by rw [fd_up_ne (by omega)]; exact h.2 j j1 j2 j3 j4 j5 j6⟩
theorem doP.slot {I J : fdI} {i : Nat} {v : Int32} (h : doP I J) (hk : i = 1 ∨ i = 7 ∨ i = 10 ∨ i = 13 ∨ i = 16 ∨ i = 17) : doP I (fd_up J 0 i v) := ⟨fun a a0 a1 => by rw [fd_up_cell a0]; exact h.1 a a0 a1, fun j j1 j2 j3 j4 j5 j6 => by rw [fd_up_pl (by omega)]; exact h.2 j j1 j2 j3 j4 j5 j6⟩
theorem bgI.doP {I I' : fdI} {n : Int32} (h : bgI I I' n) : doP I I' := ⟨fun a a0 a1 => h.1 a a0 (by omega) (by omega) (by omega) (by omega) (by omega) (by omega), fun j j1 j2 j3 j4 j5 j6 => h.2.1 j j1 j2 j3 j4 j5 j6⟩
theorem lifeP_nI {a : Int32} (h : lifeP a) : a = nI a.toNatClampNeg ∧ 1 ≤ a.toNatClampNeg ∧ a.toNatClampNeg ≤ 7 := by
  have h1 : dayP a 8 := ⟨by have := h.1; omega, by have := h.2; omega⟩
  obtain ⟨j, hj, rfl⟩ := dayP_nI h1
  rw [nI_clamp (by omega)]
  have e : (nI j).toInt = (j : Int) := nI_toInt (by omega)
  have a1 := h.1
  have a2 := h.2
  rw [e] at a1 a2
  exact ⟨rfl, by omega, by omega⟩
def doE (s : pS) (I : fdI) (L : fdL) (r : Bool × pS) (v : Value) (I' : fdI) (L' : fdL) : Prop := v = .int (fd_b (r.1 = true)) ∧ mSt r.2 I' ∧ doP I I' ∧ L' = L
theorem c_does (s : pS) (α : Nat → Nat) (I : fdI) (L : fdL) {k : Nat} {w a b : Int32} (h : mSt s I) (hk : 3 * k + 2 < 150) (hw : I 21 (3 * k) = w) (hwp : dayP w 7) (ha : I 21 (3 * k + 1) = a) (hb : I 21 (3 * k + 2) = b) : Con fd_SM α yX11_does mX11_does [.ref (α 0), .int (nI k)] I L (fd_ip (doE s I L (apI s w a b))) := by
  refine Con.of (by decide) rfl (Nat.le_of_ble_eq_true rfl) ?_
  have e3 : (3 : Int32) * nI k = nI (3 * k) := pk_mul 3 k
  obtain ⟨wn, hwn, rfl⟩ := dayP_nI hwp
  obtain ⟨V, n, nn, np, nt, rk, ot, ly⟩ := s
  have hs := h
  obtain ⟨k1, k2, k3, k4, k5, k6, k7⟩ := h
  have hn := k1.1
  have hn7 := k1.2.1
  have bad : ∀ {j : Nat} {v : Int32}, mSt (V, n, nn, np, nt, rk, ot, ly) (fd_up I 1 j v) ∧ doP I (fd_up I 1 j v) := ⟨hs.refus, doP.rfl'.row (by decide)⟩
  have V1 : ∀ d, d < n → I 2 d = V 1 d := fun d hd => (k1.2.2.2.2.2.2.2.2.1.1 d hd).1
  rcases (show wn = 0 ∨ wn = 1 ∨ wn = 2 ∨ wn = 3 ∨ wn = 4 ∨ wn = 5 ∨ wn = 6 by omega) with rfl | rfl | rfl | rfl | rfl | rfl | rfl
  · have eA : apI (V, n, nn, np, nt, rk, ot, ly) (nI 0) a b = if lifeP a then (true, opLife a.toNatClampNeg) else (false, (V, n, nn, np, nt, rk, ot, ly)) := by
      unfold apI
      rw [if_pos (show nI 0 = 0 from rfl)]
    refine r_aload_n dX11_does_0 rfl ?_
    refine r_getR rfl rfl fl_11_70 dX11_does_1 ?_
    refine r_iconst (v := 3) dX11_does_4 rfl ?_
    refine r_iload_n dX11_does_5 rfl ?_
    refine r_imul dX11_does_6 ?_
    rw [e3]
    refine r_iconst (v := 1) dX11_does_7 rfl ?_
    refine r_iadd dX11_does_8 ?_
    rw [nI_1]
    refine r_ialdN rfl dX11_does_9 (by omega) (by omega) ha ?_
    refine r_istore_n (lv' := [(2, _), (0, _), (1, _)]) dX11_does_10 (Nat.le_of_ble_eq_true rfl) rfl ?_
    refine r_aload_n dX11_does_11 rfl ?_
    refine r_getR rfl rfl fl_11_70 dX11_does_12 ?_
    refine r_iconst (v := 3) dX11_does_15 rfl ?_
    refine r_iload_n dX11_does_16 rfl ?_
    refine r_imul dX11_does_17 ?_
    rw [e3]
    refine r_iconst (v := 2) dX11_does_18 rfl ?_
    refine r_iadd dX11_does_19 ?_
    rw [show nI (3 * k) + 2 = nI (3 * k + 2) from nI_add _ 2]
    refine r_ialdN rfl dX11_does_20 (by omega) (by omega) hb ?_
    refine r_istore_n (lv' := [(3, _), (2, _), (0, _), (1, _)]) dX11_does_21 (Nat.le_of_ble_eq_true rfl) rfl ?_
    refine r_aload_n dX11_does_22 rfl ?_
    refine r_getR rfl rfl fl_11_70 dX11_does_23 ?_
    refine r_iconst (v := 3) dX11_does_26 rfl ?_
    refine r_iload_n dX11_does_27 rfl ?_
    refine r_imul dX11_does_28 ?_
    rw [e3]
    refine r_ialdN rfl dX11_does_29 (by omega) (by omega) hw ?_
    refine r_tswIn (tgt := 68) dX11_does_30 (by decide) (by decide) rfl (by decide) ?_
    by_cases hok : lifeP a
    · rw [if_pos hok] at eA
      rw [eA]
      obtain ⟨q1, q2, q3⟩ := lifeP_nI hok
      refine r_aload_n dX11_does_68 rfl ?_
      refine r_iload_n dX11_does_69 rfl ?_
      refine r_cVp (As := [_]) (c_X11_life α _ _ _) lk_11_270 rfl rfl (by decide) (by decide) rfl rfl (Nat.le_of_ble_eq_true rfl) dX11_does_70 (fun v70 I70 L70 q70 => ?_)
      obtain ⟨e70, g70, -⟩ := q70
      obtain ⟨rfl, g⟩ := g70 hok
      rw [hn]
      rw [q1] at g
      refine r_if_le 80 dX11_does_73 (by decide) (fun h73 => absurd h73 (nI_nle (by omega) (by omega))) (fun h73 => ?_)
      refine r_iconst (v := 1) dX11_does_76 rfl ?_
      refine r_goto (tgt := 81) dX11_does_77 (by decide) ?_
      refine r_zret rfl (by decide) dX11_does_81 ?_
      exact ⟨_, rfl, rfl, mSt.bgI ⟨q2, q3⟩ g, g.doP, e70⟩
    · rw [if_neg hok] at eA
      rw [eA]
      refine r_aload_n dX11_does_68 rfl ?_
      refine r_iload_n dX11_does_69 rfl ?_
      refine r_cVp (As := [_]) (c_X11_life α _ _ _) lk_11_270 rfl rfl (by decide) (by decide) rfl rfl (Nat.le_of_ble_eq_true rfl) dX11_does_70 (fun v70 I70 L70 q70 => ?_)
      obtain ⟨e70, -, g70⟩ := q70
      obtain ⟨rfl, rfl⟩ := g70 hok
      refine r_if_le 80 dX11_does_73 (by decide) (fun h73 => ?_) (fun h73 => absurd h73 (by decide))
      refine r_iconst (v := 0) dX11_does_80 rfl ?_
      refine r_zret rfl (by decide) dX11_does_81 ?_
      exact ⟨_, rfl, rfl, bad.1, bad.2, e70⟩
  · have eA : apI (V, n, nn, np, nt, rk, ot, ly) (nI 1) a b = if dayP a n ∧ dayP b 6 then (true, opDay (V, n, nn, np, nt, rk, ot, ly) a.toNatClampNeg b) else (false, (V, n, nn, np, nt, rk, ot, ly)) := by
      unfold apI
      rw [if_neg (show ¬ nI 1 = 0 by decide), if_pos (show nI 1 = 1 from rfl)]
    refine r_aload_n dX11_does_0 rfl ?_
    refine r_getR rfl rfl fl_11_70 dX11_does_1 ?_
    refine r_iconst (v := 3) dX11_does_4 rfl ?_
    refine r_iload_n dX11_does_5 rfl ?_
    refine r_imul dX11_does_6 ?_
    rw [e3]
    refine r_iconst (v := 1) dX11_does_7 rfl ?_
    refine r_iadd dX11_does_8 ?_
    rw [nI_1]
    refine r_ialdN rfl dX11_does_9 (by omega) (by omega) ha ?_
    refine r_istore_n (lv' := [(2, _), (0, _), (1, _)]) dX11_does_10 (Nat.le_of_ble_eq_true rfl) rfl ?_
    refine r_aload_n dX11_does_11 rfl ?_
    refine r_getR rfl rfl fl_11_70 dX11_does_12 ?_
    refine r_iconst (v := 3) dX11_does_15 rfl ?_
    refine r_iload_n dX11_does_16 rfl ?_
    refine r_imul dX11_does_17 ?_
    rw [e3]
    refine r_iconst (v := 2) dX11_does_18 rfl ?_
    refine r_iadd dX11_does_19 ?_
    rw [show nI (3 * k) + 2 = nI (3 * k + 2) from nI_add _ 2]
    refine r_ialdN rfl dX11_does_20 (by omega) (by omega) hb ?_
    refine r_istore_n (lv' := [(3, _), (2, _), (0, _), (1, _)]) dX11_does_21 (Nat.le_of_ble_eq_true rfl) rfl ?_
    refine r_aload_n dX11_does_22 rfl ?_
    refine r_getR rfl rfl fl_11_70 dX11_does_23 ?_
    refine r_iconst (v := 3) dX11_does_26 rfl ?_
    refine r_iload_n dX11_does_27 rfl ?_
    refine r_imul dX11_does_28 ?_
    rw [e3]
    refine r_ialdN rfl dX11_does_29 (by omega) (by omega) hw ?_
    refine r_tswIn (tgt := 82) dX11_does_30 (by decide) (by decide) rfl (by decide) ?_
    by_cases hok : dayP a n ∧ dayP b 6
    · rw [if_pos hok] at eA
      rw [eA]
      obtain ⟨j, hj, rfl⟩ := dayP_nI hok.1
      rw [nI_clamp (by omega)] at eA ⊢
      have vj := V1 j hj
      have pj := (k1.2.2.2.2.2.2.2.2.2.1 j hj).1
      refine r_aload_n dX11_does_82 rfl ?_
      refine r_iload_n dX11_does_83 rfl ?_
      refine r_iload_n dX11_does_84 rfl ?_
      refine r_cVr (As := [_, _]) (c_X11_day α _ _ _ _ hn hn7) lk_11_273 rfl rfl (by decide) (by decide) rfl rfl (Nat.le_of_ble_eq_true rfl) dX11_does_85 ?_
      rw [if_pos hok, if_pos hok, nI_clamp (by omega), vj]
      refine r_if_lt 95 dX11_does_88 (by decide) (fun h88 => absurd h88 (fun q => absurd pj.1 (by have := Int32.lt_iff_toInt_lt.mp q; simp at this; omega))) (fun h88 => ?_)
      refine r_iconst (v := 1) dX11_does_91 rfl ?_
      refine r_goto (tgt := 96) dX11_does_92 (by decide) ?_
      refine r_zret rfl (by decide) dX11_does_96 ?_
      exact ⟨_, rfl, rfl, hs.day hj hok.2, (doP.rfl'.row (by decide)).slot (by decide), rfl⟩
    · rw [if_neg hok] at eA
      rw [eA]
      refine r_aload_n dX11_does_82 rfl ?_
      refine r_iload_n dX11_does_83 rfl ?_
      refine r_iload_n dX11_does_84 rfl ?_
      refine r_cVr (As := [_, _]) (c_X11_day α _ _ _ _ hn hn7) lk_11_273 rfl rfl (by decide) (by decide) rfl rfl (Nat.le_of_ble_eq_true rfl) dX11_does_85 ?_
      rw [if_neg hok, if_neg hok]
      refine r_if_lt 95 dX11_does_88 (by decide) (fun h88 => ?_) (fun h88 => absurd h88 (not_not_intro (by decide)))
      refine r_iconst (v := 0) dX11_does_95 rfl ?_
      refine r_zret rfl (by decide) dX11_does_96 ?_
      exact ⟨_, rfl, rfl, bad.1, bad.2, rfl⟩
  · have eA : apI (V, n, nn, np, nt, rk, ot, ly) (nI 2) a b = if dayP a n ∧ dayP b 6 ∧ fcB (V, n, nn, np, nt, rk, ot, ly) a.toNatClampNeg 0 b = false then (true, opFact (V, n, nn, np, nt, rk, ot, ly) a.toNatClampNeg 0 b) else (false, (V, n, nn, np, nt, rk, ot, ly)) := by
      unfold apI
      rw [if_neg (show ¬ nI 2 = 0 by decide), if_neg (show ¬ nI 2 = 1 by decide), if_pos (show nI 2 = 2 from rfl)]
    refine r_aload_n dX11_does_0 rfl ?_
    refine r_getR rfl rfl fl_11_70 dX11_does_1 ?_
    refine r_iconst (v := 3) dX11_does_4 rfl ?_
    refine r_iload_n dX11_does_5 rfl ?_
    refine r_imul dX11_does_6 ?_
    rw [e3]
    refine r_iconst (v := 1) dX11_does_7 rfl ?_
    refine r_iadd dX11_does_8 ?_
    rw [nI_1]
    refine r_ialdN rfl dX11_does_9 (by omega) (by omega) ha ?_
    refine r_istore_n (lv' := [(2, _), (0, _), (1, _)]) dX11_does_10 (Nat.le_of_ble_eq_true rfl) rfl ?_
    refine r_aload_n dX11_does_11 rfl ?_
    refine r_getR rfl rfl fl_11_70 dX11_does_12 ?_
    refine r_iconst (v := 3) dX11_does_15 rfl ?_
    refine r_iload_n dX11_does_16 rfl ?_
    refine r_imul dX11_does_17 ?_
    rw [e3]
    refine r_iconst (v := 2) dX11_does_18 rfl ?_
    refine r_iadd dX11_does_19 ?_
    rw [show nI (3 * k) + 2 = nI (3 * k + 2) from nI_add _ 2]
    refine r_ialdN rfl dX11_does_20 (by omega) (by omega) hb ?_
    refine r_istore_n (lv' := [(3, _), (2, _), (0, _), (1, _)]) dX11_does_21 (Nat.le_of_ble_eq_true rfl) rfl ?_
    refine r_aload_n dX11_does_22 rfl ?_
    refine r_getR rfl rfl fl_11_70 dX11_does_23 ?_
    refine r_iconst (v := 3) dX11_does_26 rfl ?_
    refine r_iload_n dX11_does_27 rfl ?_
    refine r_imul dX11_does_28 ?_
    rw [e3]
    refine r_ialdN rfl dX11_does_29 (by omega) (by omega) hw ?_
    refine r_tswIn (tgt := 97) dX11_does_30 (by decide) (by decide) rfl (by decide) ?_
    by_cases hok : dayP a n ∧ dayP b 6 ∧ fcB (V, n, nn, np, nt, rk, ot, ly) a.toNatClampNeg 0 b = false
    · rw [if_pos hok] at eA
      rw [eA]
      obtain ⟨h1, h2, h3⟩ := hok
      obtain ⟨j, hj, rfl⟩ := dayP_nI h1
      rw [nI_clamp (by omega)] at h3 ⊢
      have vj : I (3 + 0) j = V (2 + 0) j := (k1.2.2.2.2.2.2.2.2.1.1 j hj).2.1
      have eH : faH I (nI j) 0 = V (2 + 0) j := by unfold faH; rw [nI_clamp (by omega)]; exact vj
      have nb : ¬ fd_b ((faH I (nI j) 0 >>> (b &&& 31)) &&& 1 = 1) = 1 := by
        rw [eH]
        intro q
        have q2 := fd_b1.mp q
        unfold fcB at h3
        exact absurd q2 (of_decide_eq_false h3)
      have okk : dayP (nI j) n ∧ dayP 0 2 ∧ dayP b 6 := ⟨h1, by decide, h2⟩
      have eR : faR I n (nI j) 0 b 1 = 1 := by unfold faR; rw [if_pos okk, if_neg nb]
      have eI : faI I n (nI j) 0 b 1 = fd_up (fd_up I (3 + 0) j (I (3 + 0) j ^^^ (1 <<< (b &&& 31)))) 0 17 0 := by
        unfold faI
        rw [if_pos okk, if_neg nb, eH, vj, nI_clamp (by omega)]
        rfl
      refine r_aload_n dX11_does_97 rfl ?_
      refine r_iload_n dX11_does_98 rfl ?_
      refine r_aload_n dX11_does_99 rfl ?_
      refine r_getR rfl rfl fl_11_70 dX11_does_100 ?_
      refine r_iconst (v := 3) dX11_does_103 rfl ?_
      refine r_iload_n dX11_does_104 rfl ?_
      refine r_imul dX11_does_105 ?_
      rw [e3]
      refine r_ialdN rfl dX11_does_106 (by omega) (by omega) hw ?_
      refine r_iconst (v := 2) dX11_does_107 rfl ?_
      refine r_isub dX11_does_108 ?_
      rw [show nI 2 - 2 = 0 from by decide]
      refine r_iload_n dX11_does_109 rfl ?_
      refine r_iconst (v := 1) dX11_does_110 rfl ?_
      refine r_cVr (As := [_, _, _, _]) (c_X11_fact α _ _ _ _ _ _ hn hn7) lk_11_276 rfl rfl (by decide) (by decide) rfl rfl (Nat.le_of_ble_eq_true rfl) dX11_does_111 ?_
      rw [eR, eI]
      refine r_if_le 121 dX11_does_114 (by decide) (fun h114 => absurd h114 (by decide)) (fun h114 => ?_)
      refine r_iconst (v := 1) dX11_does_117 rfl ?_
      refine r_goto (tgt := 122) dX11_does_118 (by decide) ?_
      refine r_zret rfl (by decide) dX11_does_122 ?_
      exact ⟨_, rfl, rfl, hs.fact hj (by decide) h2, (doP.rfl'.row (by decide)).slot (by decide), rfl⟩
    · rw [if_neg hok] at eA
      rw [eA]
      have eR : (faR I n a 0 b 1 = -2 ∧ faI I n a 0 b 1 = mBad I) ∨ (faR I n a 0 b 1 = -3 ∧ faI I n a 0 b 1 = mNo I) := by
        by_cases okk : dayP a n ∧ dayP 0 2 ∧ dayP b 6
        · have hq : fd_b ((faH I a 0 >>> (b &&& 31)) &&& 1 = 1) = 1 := by
            obtain ⟨j, hj, rfl⟩ := dayP_nI okk.1
            have vj : I (3 + 0) j = V (2 + 0) j := (k1.2.2.2.2.2.2.2.2.1.1 j hj).2.1
            have eH : faH I (nI j) 0 = V (2 + 0) j := by unfold faH; rw [nI_clamp (by omega)]; exact vj
            rw [nI_clamp (by omega)] at hok
            rw [eH]
            refine fd_b_t (Decidable.byContradiction fun q => hok ⟨okk.1, okk.2.2, ?_⟩)
            unfold fcB
            exact decide_eq_false q
          exact Or.inr ⟨by unfold faR; rw [if_pos okk, if_pos hq], by unfold faI; rw [if_pos okk, if_pos hq]⟩
        · exact Or.inl ⟨by unfold faR; rw [if_neg okk], by unfold faI; rw [if_neg okk]⟩
      rcases eR with ⟨eR, eI⟩ | ⟨eR, eI⟩
      · refine r_aload_n dX11_does_97 rfl ?_
        refine r_iload_n dX11_does_98 rfl ?_
        refine r_aload_n dX11_does_99 rfl ?_
        refine r_getR rfl rfl fl_11_70 dX11_does_100 ?_
        refine r_iconst (v := 3) dX11_does_103 rfl ?_
        refine r_iload_n dX11_does_104 rfl ?_
        refine r_imul dX11_does_105 ?_
        rw [e3]
        refine r_ialdN rfl dX11_does_106 (by omega) (by omega) hw ?_
        refine r_iconst (v := 2) dX11_does_107 rfl ?_
        refine r_isub dX11_does_108 ?_
        rw [show nI 2 - 2 = 0 from by decide]
        refine r_iload_n dX11_does_109 rfl ?_
        refine r_iconst (v := 1) dX11_does_110 rfl ?_
        refine r_cVr (As := [_, _, _, _]) (c_X11_fact α _ _ _ _ _ _ hn hn7) lk_11_276 rfl rfl (by decide) (by decide) rfl rfl (Nat.le_of_ble_eq_true rfl) dX11_does_111 ?_
        rw [eR, eI]
        refine r_if_le 121 dX11_does_114 (by decide) (fun h114 => ?_) (fun h114 => absurd h114 (by decide))
        refine r_iconst (v := 0) dX11_does_121 rfl ?_
        refine r_zret rfl (by decide) dX11_does_122 ?_
        exact ⟨_, rfl, rfl, bad.1, bad.2, rfl⟩
      · refine r_aload_n dX11_does_97 rfl ?_
        refine r_iload_n dX11_does_98 rfl ?_
        refine r_aload_n dX11_does_99 rfl ?_
        refine r_getR rfl rfl fl_11_70 dX11_does_100 ?_
        refine r_iconst (v := 3) dX11_does_103 rfl ?_
        refine r_iload_n dX11_does_104 rfl ?_
        refine r_imul dX11_does_105 ?_
        rw [e3]
        refine r_ialdN rfl dX11_does_106 (by omega) (by omega) hw ?_
        refine r_iconst (v := 2) dX11_does_107 rfl ?_
        refine r_isub dX11_does_108 ?_
        rw [show nI 2 - 2 = 0 from by decide]
        refine r_iload_n dX11_does_109 rfl ?_
        refine r_iconst (v := 1) dX11_does_110 rfl ?_
        refine r_cVr (As := [_, _, _, _]) (c_X11_fact α _ _ _ _ _ _ hn hn7) lk_11_276 rfl rfl (by decide) (by decide) rfl rfl (Nat.le_of_ble_eq_true rfl) dX11_does_111 ?_
        rw [eR, eI]
        refine r_if_le 121 dX11_does_114 (by decide) (fun h114 => ?_) (fun h114 => absurd h114 (by decide))
        refine r_iconst (v := 0) dX11_does_121 rfl ?_
        refine r_zret rfl (by decide) dX11_does_122 ?_
        exact ⟨_, rfl, rfl, bad.1, bad.2, rfl⟩
  · have eA : apI (V, n, nn, np, nt, rk, ot, ly) (nI 3) a b = if dayP a n ∧ dayP b 6 ∧ fcB (V, n, nn, np, nt, rk, ot, ly) a.toNatClampNeg 1 b = false then (true, opFact (V, n, nn, np, nt, rk, ot, ly) a.toNatClampNeg 1 b) else (false, (V, n, nn, np, nt, rk, ot, ly)) := by
      unfold apI
      rw [if_neg (show ¬ nI 3 = 0 by decide), if_neg (show ¬ nI 3 = 1 by decide), if_neg (show ¬ nI 3 = 2 by decide), if_pos (show nI 3 = 3 from rfl)]
    refine r_aload_n dX11_does_0 rfl ?_
    refine r_getR rfl rfl fl_11_70 dX11_does_1 ?_
    refine r_iconst (v := 3) dX11_does_4 rfl ?_
    refine r_iload_n dX11_does_5 rfl ?_
    refine r_imul dX11_does_6 ?_
    rw [e3]
    refine r_iconst (v := 1) dX11_does_7 rfl ?_
    refine r_iadd dX11_does_8 ?_
    rw [nI_1]
    refine r_ialdN rfl dX11_does_9 (by omega) (by omega) ha ?_
    refine r_istore_n (lv' := [(2, _), (0, _), (1, _)]) dX11_does_10 (Nat.le_of_ble_eq_true rfl) rfl ?_
    refine r_aload_n dX11_does_11 rfl ?_
    refine r_getR rfl rfl fl_11_70 dX11_does_12 ?_
    refine r_iconst (v := 3) dX11_does_15 rfl ?_
    refine r_iload_n dX11_does_16 rfl ?_
    refine r_imul dX11_does_17 ?_
    rw [e3]
    refine r_iconst (v := 2) dX11_does_18 rfl ?_
    refine r_iadd dX11_does_19 ?_
    rw [show nI (3 * k) + 2 = nI (3 * k + 2) from nI_add _ 2]
    refine r_ialdN rfl dX11_does_20 (by omega) (by omega) hb ?_
    refine r_istore_n (lv' := [(3, _), (2, _), (0, _), (1, _)]) dX11_does_21 (Nat.le_of_ble_eq_true rfl) rfl ?_
    refine r_aload_n dX11_does_22 rfl ?_
    refine r_getR rfl rfl fl_11_70 dX11_does_23 ?_
    refine r_iconst (v := 3) dX11_does_26 rfl ?_
    refine r_iload_n dX11_does_27 rfl ?_
    refine r_imul dX11_does_28 ?_
    rw [e3]
    refine r_ialdN rfl dX11_does_29 (by omega) (by omega) hw ?_
    refine r_tswIn (tgt := 97) dX11_does_30 (by decide) (by decide) rfl (by decide) ?_
    by_cases hok : dayP a n ∧ dayP b 6 ∧ fcB (V, n, nn, np, nt, rk, ot, ly) a.toNatClampNeg 1 b = false
    · rw [if_pos hok] at eA
      rw [eA]
      obtain ⟨h1, h2, h3⟩ := hok
      obtain ⟨j, hj, rfl⟩ := dayP_nI h1
      rw [nI_clamp (by omega)] at h3 ⊢
      have vj : I (3 + 1) j = V (2 + 1) j := (k1.2.2.2.2.2.2.2.2.1.1 j hj).2.2.1
      have eH : faH I (nI j) 1 = V (2 + 1) j := by unfold faH; rw [nI_clamp (by omega)]; exact vj
      have nb : ¬ fd_b ((faH I (nI j) 1 >>> (b &&& 31)) &&& 1 = 1) = 1 := by
        rw [eH]
        intro q
        have q2 := fd_b1.mp q
        unfold fcB at h3
        exact absurd q2 (of_decide_eq_false h3)
      have okk : dayP (nI j) n ∧ dayP 1 2 ∧ dayP b 6 := ⟨h1, by decide, h2⟩
      have eR : faR I n (nI j) 1 b 1 = 1 := by unfold faR; rw [if_pos okk, if_neg nb]
      have eI : faI I n (nI j) 1 b 1 = fd_up (fd_up I (3 + 1) j (I (3 + 1) j ^^^ (1 <<< (b &&& 31)))) 0 17 0 := by
        unfold faI
        rw [if_pos okk, if_neg nb, eH, vj, nI_clamp (by omega)]
        rfl
      refine r_aload_n dX11_does_97 rfl ?_
      refine r_iload_n dX11_does_98 rfl ?_
      refine r_aload_n dX11_does_99 rfl ?_
      refine r_getR rfl rfl fl_11_70 dX11_does_100 ?_
      refine r_iconst (v := 3) dX11_does_103 rfl ?_
      refine r_iload_n dX11_does_104 rfl ?_
      refine r_imul dX11_does_105 ?_
      rw [e3]
      refine r_ialdN rfl dX11_does_106 (by omega) (by omega) hw ?_
      refine r_iconst (v := 2) dX11_does_107 rfl ?_
      refine r_isub dX11_does_108 ?_
      rw [show nI 3 - 2 = 1 from by decide]
      refine r_iload_n dX11_does_109 rfl ?_
      refine r_iconst (v := 1) dX11_does_110 rfl ?_
      refine r_cVr (As := [_, _, _, _]) (c_X11_fact α _ _ _ _ _ _ hn hn7) lk_11_276 rfl rfl (by decide) (by decide) rfl rfl (Nat.le_of_ble_eq_true rfl) dX11_does_111 ?_
      rw [eR, eI]
      refine r_if_le 121 dX11_does_114 (by decide) (fun h114 => absurd h114 (by decide)) (fun h114 => ?_)
      refine r_iconst (v := 1) dX11_does_117 rfl ?_
      refine r_goto (tgt := 122) dX11_does_118 (by decide) ?_
      refine r_zret rfl (by decide) dX11_does_122 ?_
      exact ⟨_, rfl, rfl, hs.fact hj (by decide) h2, (doP.rfl'.row (by decide)).slot (by decide), rfl⟩
    · rw [if_neg hok] at eA
      rw [eA]
      have eR : (faR I n a 1 b 1 = -2 ∧ faI I n a 1 b 1 = mBad I) ∨ (faR I n a 1 b 1 = -3 ∧ faI I n a 1 b 1 = mNo I) := by
        by_cases okk : dayP a n ∧ dayP 1 2 ∧ dayP b 6
        · have hq : fd_b ((faH I a 1 >>> (b &&& 31)) &&& 1 = 1) = 1 := by
            obtain ⟨j, hj, rfl⟩ := dayP_nI okk.1
            have vj : I (3 + 1) j = V (2 + 1) j := (k1.2.2.2.2.2.2.2.2.1.1 j hj).2.2.1
            have eH : faH I (nI j) 1 = V (2 + 1) j := by unfold faH; rw [nI_clamp (by omega)]; exact vj
            rw [nI_clamp (by omega)] at hok
            rw [eH]
            refine fd_b_t (Decidable.byContradiction fun q => hok ⟨okk.1, okk.2.2, ?_⟩)
            unfold fcB
            exact decide_eq_false q
          exact Or.inr ⟨by unfold faR; rw [if_pos okk, if_pos hq], by unfold faI; rw [if_pos okk, if_pos hq]⟩
        · exact Or.inl ⟨by unfold faR; rw [if_neg okk], by unfold faI; rw [if_neg okk]⟩
      rcases eR with ⟨eR, eI⟩ | ⟨eR, eI⟩
      · refine r_aload_n dX11_does_97 rfl ?_
        refine r_iload_n dX11_does_98 rfl ?_
        refine r_aload_n dX11_does_99 rfl ?_
        refine r_getR rfl rfl fl_11_70 dX11_does_100 ?_
        refine r_iconst (v := 3) dX11_does_103 rfl ?_
        refine r_iload_n dX11_does_104 rfl ?_
        refine r_imul dX11_does_105 ?_
        rw [e3]
        refine r_ialdN rfl dX11_does_106 (by omega) (by omega) hw ?_
        refine r_iconst (v := 2) dX11_does_107 rfl ?_
        refine r_isub dX11_does_108 ?_
        rw [show nI 3 - 2 = 1 from by decide]
        refine r_iload_n dX11_does_109 rfl ?_
        refine r_iconst (v := 1) dX11_does_110 rfl ?_
        refine r_cVr (As := [_, _, _, _]) (c_X11_fact α _ _ _ _ _ _ hn hn7) lk_11_276 rfl rfl (by decide) (by decide) rfl rfl (Nat.le_of_ble_eq_true rfl) dX11_does_111 ?_
        rw [eR, eI]
        refine r_if_le 121 dX11_does_114 (by decide) (fun h114 => ?_) (fun h114 => absurd h114 (by decide))
        refine r_iconst (v := 0) dX11_does_121 rfl ?_
        refine r_zret rfl (by decide) dX11_does_122 ?_
        exact ⟨_, rfl, rfl, bad.1, bad.2, rfl⟩
      · refine r_aload_n dX11_does_97 rfl ?_
        refine r_iload_n dX11_does_98 rfl ?_
        refine r_aload_n dX11_does_99 rfl ?_
        refine r_getR rfl rfl fl_11_70 dX11_does_100 ?_
        refine r_iconst (v := 3) dX11_does_103 rfl ?_
        refine r_iload_n dX11_does_104 rfl ?_
        refine r_imul dX11_does_105 ?_
        rw [e3]
        refine r_ialdN rfl dX11_does_106 (by omega) (by omega) hw ?_
        refine r_iconst (v := 2) dX11_does_107 rfl ?_
        refine r_isub dX11_does_108 ?_
        rw [show nI 3 - 2 = 1 from by decide]
        refine r_iload_n dX11_does_109 rfl ?_
        refine r_iconst (v := 1) dX11_does_110 rfl ?_
        refine r_cVr (As := [_, _, _, _]) (c_X11_fact α _ _ _ _ _ _ hn hn7) lk_11_276 rfl rfl (by decide) (by decide) rfl rfl (Nat.le_of_ble_eq_true rfl) dX11_does_111 ?_
        rw [eR, eI]
        refine r_if_le 121 dX11_does_114 (by decide) (fun h114 => ?_) (fun h114 => absurd h114 (by decide))
        refine r_iconst (v := 0) dX11_does_121 rfl ?_
        refine r_zret rfl (by decide) dX11_does_122 ?_
        exact ⟨_, rfl, rfl, bad.1, bad.2, rfl⟩
  · have eA : apI (V, n, nn, np, nt, rk, ot, ly) (nI 4) a b = if dayP a n ∧ dayP b 6 ∧ isNP (V, n, nn, np, nt, rk, ot, ly) a b = false ∧ nn < 6 then (true, opNote (V, n, nn, np, nt, rk, ot, ly) a b) else (false, (V, n, nn, np, nt, rk, ot, ly)) := by
      unfold apI
      rw [if_neg (show ¬ nI 4 = 0 by decide), if_neg (show ¬ nI 4 = 1 by decide), if_neg (show ¬ nI 4 = 2 by decide), if_neg (show ¬ nI 4 = 3 by decide), if_pos (show nI 4 = 4 from rfl)]
    refine r_aload_n dX11_does_0 rfl ?_
    refine r_getR rfl rfl fl_11_70 dX11_does_1 ?_
    refine r_iconst (v := 3) dX11_does_4 rfl ?_
    refine r_iload_n dX11_does_5 rfl ?_
    refine r_imul dX11_does_6 ?_
    rw [e3]
    refine r_iconst (v := 1) dX11_does_7 rfl ?_
    refine r_iadd dX11_does_8 ?_
    rw [nI_1]
    refine r_ialdN rfl dX11_does_9 (by omega) (by omega) ha ?_
    refine r_istore_n (lv' := [(2, _), (0, _), (1, _)]) dX11_does_10 (Nat.le_of_ble_eq_true rfl) rfl ?_
    refine r_aload_n dX11_does_11 rfl ?_
    refine r_getR rfl rfl fl_11_70 dX11_does_12 ?_
    refine r_iconst (v := 3) dX11_does_15 rfl ?_
    refine r_iload_n dX11_does_16 rfl ?_
    refine r_imul dX11_does_17 ?_
    rw [e3]
    refine r_iconst (v := 2) dX11_does_18 rfl ?_
    refine r_iadd dX11_does_19 ?_
    rw [show nI (3 * k) + 2 = nI (3 * k + 2) from nI_add _ 2]
    refine r_ialdN rfl dX11_does_20 (by omega) (by omega) hb ?_
    refine r_istore_n (lv' := [(3, _), (2, _), (0, _), (1, _)]) dX11_does_21 (Nat.le_of_ble_eq_true rfl) rfl ?_
    refine r_aload_n dX11_does_22 rfl ?_
    refine r_getR rfl rfl fl_11_70 dX11_does_23 ?_
    refine r_iconst (v := 3) dX11_does_26 rfl ?_
    refine r_iload_n dX11_does_27 rfl ?_
    refine r_imul dX11_does_28 ?_
    rw [e3]
    refine r_ialdN rfl dX11_does_29 (by omega) (by omega) hw ?_
    refine r_tswIn (tgt := 123) dX11_does_30 (by decide) (by decide) rfl (by decide) ?_
    by_cases hok : dayP a n ∧ dayP b 6 ∧ isNP (V, n, nn, np, nt, rk, ot, ly) a b = false ∧ nn < 6
    · rw [if_pos hok] at eA
      rw [eA]
      have hq : ¬ orB (isNB I a b) nn = true := by
        rw [show orB (isNB I a b) nn = isNP (V, n, nn, np, nt, rk, ot, ly) a b from orB_congr fun i hi => by
          have := k1.2.2.2.2.2.2.2.2.1.2.1 i hi
          unfold isNB
          rw [show I 7 i = V 6 i from this.1, show I 8 i = V 7 i from this.2], hok.2.2.1]
        decide
      have h6 : ¬ nn = 6 := by have := hok.2.2.2; omega
      have eR : ntR I n nn a b = nI nn := by unfold ntR; rw [if_pos ⟨hok.1, hok.2.1⟩, if_neg hq, if_neg h6]
      have eI : ntI I n nn a b = fd_up (fd_up (fd_up (fd_up I 7 nn a) 8 nn b) 0 7 (nI (nn + 1))) 0 17 0 := by unfold ntI; rw [if_pos ⟨hok.1, hok.2.1⟩, if_neg hq, if_neg h6]
      have hnn := k1.2.2.2.1
      refine r_aload_n dX11_does_123 rfl ?_
      refine r_iload_n dX11_does_124 rfl ?_
      refine r_iload_n dX11_does_125 rfl ?_
      refine r_cVr (As := [_, _]) (c_X11_note α _ _ _ _ hn hn7 k1.2.2.1 hnn) lk_11_280 rfl rfl (by decide) (by decide) rfl rfl (Nat.le_of_ble_eq_true rfl) dX11_does_126 ?_
      rw [eR, eI]
      refine r_if_lt 136 dX11_does_129 (by decide) (fun h129 => absurd h129 (nI_pos (by omega))) (fun h129 => ?_)
      refine r_iconst (v := 1) dX11_does_132 rfl ?_
      refine r_goto (tgt := 137) dX11_does_133 (by decide) ?_
      refine r_zret rfl (by decide) dX11_does_137 ?_
      exact ⟨_, rfl, rfl, hs.note hok.1 hok.2.1 hok.2.2.2, (((doP.rfl'.row (by decide)).row (by decide)).slot (by decide)).slot (by decide), rfl⟩
    · rw [if_neg hok] at eA
      rw [eA]
      have hnn := k1.2.2.2.1
      have eR : ∃ r j v, ntR I n nn a b = r ∧ r < 0 ∧ ntI I n nn a b = fd_up I 1 j v := by
        unfold ntR ntI
        by_cases okk : dayP a n ∧ dayP b 6
        · simp only [if_pos okk]
          by_cases hq : orB (isNB I a b) nn = true
          · simp only [if_pos hq]; exact ⟨_, _, _, rfl, by decide, rfl⟩
          · simp only [if_neg hq]
            by_cases h6 : nn = 6
            · simp only [if_pos h6]; exact ⟨_, _, _, rfl, by decide, rfl⟩
            · refine absurd ⟨okk.1, okk.2, ?_, by omega⟩ hok
              rw [← show orB (isNB I a b) nn = isNP (V, n, nn, np, nt, rk, ot, ly) a b from orB_congr fun i hi => by
                have := k1.2.2.2.2.2.2.2.2.1.2.1 i hi
                unfold isNB
                rw [show I 7 i = V 6 i from this.1, show I 8 i = V 7 i from this.2]]
              exact Bool.eq_false_iff.mpr hq
        · simp only [if_neg okk]; exact ⟨_, _, _, rfl, by decide, rfl⟩
      obtain ⟨r, j, v, eR, hr, eI⟩ := eR
      refine r_aload_n dX11_does_123 rfl ?_
      refine r_iload_n dX11_does_124 rfl ?_
      refine r_iload_n dX11_does_125 rfl ?_
      refine r_cVr (As := [_, _]) (c_X11_note α _ _ _ _ hn hn7 k1.2.2.1 hnn) lk_11_280 rfl rfl (by decide) (by decide) rfl rfl (Nat.le_of_ble_eq_true rfl) dX11_does_126 ?_
      rw [eR, eI]
      refine r_if_lt 136 dX11_does_129 (by decide) (fun h129 => ?_) (fun h129 => absurd h129 (not_not_intro hr))
      refine r_iconst (v := 0) dX11_does_136 rfl ?_
      refine r_zret rfl (by decide) dX11_does_137 ?_
      exact ⟨_, rfl, rfl, bad.1, bad.2, rfl⟩
  · have eA : apI (V, n, nn, np, nt, rk, ot, ly) (nI 5) a b = if dayP a n ∧ dayP b n ∧ ¬ a = b ∧ np < 6 then (true, opAhead (V, n, nn, np, nt, rk, ot, ly) a b) else (false, (V, n, nn, np, nt, rk, ot, ly)) := by
      unfold apI
      rw [if_neg (show ¬ nI 5 = 0 by decide), if_neg (show ¬ nI 5 = 1 by decide), if_neg (show ¬ nI 5 = 2 by decide), if_neg (show ¬ nI 5 = 3 by decide), if_neg (show ¬ nI 5 = 4 by decide), if_pos (show nI 5 = 5 from rfl)]
    refine r_aload_n dX11_does_0 rfl ?_
    refine r_getR rfl rfl fl_11_70 dX11_does_1 ?_
    refine r_iconst (v := 3) dX11_does_4 rfl ?_
    refine r_iload_n dX11_does_5 rfl ?_
    refine r_imul dX11_does_6 ?_
    rw [e3]
    refine r_iconst (v := 1) dX11_does_7 rfl ?_
    refine r_iadd dX11_does_8 ?_
    rw [nI_1]
    refine r_ialdN rfl dX11_does_9 (by omega) (by omega) ha ?_
    refine r_istore_n (lv' := [(2, _), (0, _), (1, _)]) dX11_does_10 (Nat.le_of_ble_eq_true rfl) rfl ?_
    refine r_aload_n dX11_does_11 rfl ?_
    refine r_getR rfl rfl fl_11_70 dX11_does_12 ?_
    refine r_iconst (v := 3) dX11_does_15 rfl ?_
    refine r_iload_n dX11_does_16 rfl ?_
    refine r_imul dX11_does_17 ?_
    rw [e3]
    refine r_iconst (v := 2) dX11_does_18 rfl ?_
    refine r_iadd dX11_does_19 ?_
    rw [show nI (3 * k) + 2 = nI (3 * k + 2) from nI_add _ 2]
    refine r_ialdN rfl dX11_does_20 (by omega) (by omega) hb ?_
    refine r_istore_n (lv' := [(3, _), (2, _), (0, _), (1, _)]) dX11_does_21 (Nat.le_of_ble_eq_true rfl) rfl ?_
    refine r_aload_n dX11_does_22 rfl ?_
    refine r_getR rfl rfl fl_11_70 dX11_does_23 ?_
    refine r_iconst (v := 3) dX11_does_26 rfl ?_
    refine r_iload_n dX11_does_27 rfl ?_
    refine r_imul dX11_does_28 ?_
    rw [e3]
    refine r_ialdN rfl dX11_does_29 (by omega) (by omega) hw ?_
    refine r_tswIn (tgt := 138) dX11_does_30 (by decide) (by decide) rfl (by decide) ?_
    by_cases hok : dayP a n ∧ dayP b n ∧ ¬ a = b ∧ np < 6
    · rw [if_pos hok] at eA
      rw [eA]
      have h6 : ¬ np = 6 := by have := hok.2.2.2; omega
      have okk : dayP a n ∧ dayP b n ∧ ¬ a = b := ⟨hok.1, hok.2.1, hok.2.2.1⟩
      have eR : ahR n np a b = nI np := by unfold ahR; rw [if_pos okk, if_neg h6]
      have eI : ahI I n np a b = fd_up (fd_up (fd_up I 9 np a) 10 np b) 0 10 (nI (np + 1)) := by unfold ahI; rw [if_pos okk, if_neg h6]
      have hnp := k1.2.2.2.2.2.1
      refine r_aload_n dX11_does_138 rfl ?_
      refine r_iload_n dX11_does_139 rfl ?_
      refine r_iload_n dX11_does_140 rfl ?_
      refine r_cVr (As := [_, _]) (c_X11_ahead α _ _ _ _ hn hn7 k1.2.2.2.2.1 hnp) lk_11_283 rfl rfl (by decide) (by decide) rfl rfl (Nat.le_of_ble_eq_true rfl) dX11_does_141 ?_
      rw [eR, eI]
      refine r_if_lt 151 dX11_does_144 (by decide) (fun h144 => absurd h144 (nI_pos (by omega))) (fun h144 => ?_)
      refine r_iconst (v := 1) dX11_does_147 rfl ?_
      refine r_goto (tgt := 152) dX11_does_148 (by decide) ?_
      refine r_zret rfl (by decide) dX11_does_152 ?_
      exact ⟨_, rfl, rfl, hs.ahead hok.1 hok.2.1 hok.2.2.2, ((doP.rfl'.row (by decide)).row (by decide)).slot (by decide), rfl⟩
    · rw [if_neg hok] at eA
      rw [eA]
      have hnp := k1.2.2.2.2.2.1
      have eR : ∃ r j v, ahR n np a b = r ∧ r < 0 ∧ ahI I n np a b = fd_up I 1 j v := by
        unfold ahR ahI
        by_cases okk : dayP a n ∧ dayP b n ∧ ¬ a = b
        · simp only [if_pos okk]
          by_cases h6 : np = 6
          · simp only [if_pos h6]; exact ⟨_, _, _, rfl, by decide, rfl⟩
          · exact absurd ⟨okk.1, okk.2.1, okk.2.2, by omega⟩ hok
        · simp only [if_neg okk]; exact ⟨_, _, _, rfl, by decide, rfl⟩
      obtain ⟨r, j, v, eR, hr, eI⟩ := eR
      refine r_aload_n dX11_does_138 rfl ?_
      refine r_iload_n dX11_does_139 rfl ?_
      refine r_iload_n dX11_does_140 rfl ?_
      refine r_cVr (As := [_, _]) (c_X11_ahead α _ _ _ _ hn hn7 k1.2.2.2.2.1 hnp) lk_11_283 rfl rfl (by decide) (by decide) rfl rfl (Nat.le_of_ble_eq_true rfl) dX11_does_141 ?_
      rw [eR, eI]
      refine r_if_lt 151 dX11_does_144 (by decide) (fun h144 => ?_) (fun h144 => absurd h144 (not_not_intro hr))
      refine r_iconst (v := 0) dX11_does_151 rfl ?_
      refine r_zret rfl (by decide) dX11_does_152 ?_
      exact ⟨_, rfl, rfl, bad.1, bad.2, rfl⟩
  · have eA : apI (V, n, nn, np, nt, rk, ot, ly) (nI 6) a b = if dayP a n ∧ (b = -1 ∨ dayP b n) then (true, opAt (V, n, nn, np, nt, rk, ot, ly) a.toNatClampNeg b) else (false, (V, n, nn, np, nt, rk, ot, ly)) := by
      unfold apI
      rw [if_neg (show ¬ nI 6 = 0 by decide), if_neg (show ¬ nI 6 = 1 by decide), if_neg (show ¬ nI 6 = 2 by decide), if_neg (show ¬ nI 6 = 3 by decide), if_neg (show ¬ nI 6 = 4 by decide), if_neg (show ¬ nI 6 = 5 by decide)]
    refine r_aload_n dX11_does_0 rfl ?_
    refine r_getR rfl rfl fl_11_70 dX11_does_1 ?_
    refine r_iconst (v := 3) dX11_does_4 rfl ?_
    refine r_iload_n dX11_does_5 rfl ?_
    refine r_imul dX11_does_6 ?_
    rw [e3]
    refine r_iconst (v := 1) dX11_does_7 rfl ?_
    refine r_iadd dX11_does_8 ?_
    rw [nI_1]
    refine r_ialdN rfl dX11_does_9 (by omega) (by omega) ha ?_
    refine r_istore_n (lv' := [(2, _), (0, _), (1, _)]) dX11_does_10 (Nat.le_of_ble_eq_true rfl) rfl ?_
    refine r_aload_n dX11_does_11 rfl ?_
    refine r_getR rfl rfl fl_11_70 dX11_does_12 ?_
    refine r_iconst (v := 3) dX11_does_15 rfl ?_
    refine r_iload_n dX11_does_16 rfl ?_
    refine r_imul dX11_does_17 ?_
    rw [e3]
    refine r_iconst (v := 2) dX11_does_18 rfl ?_
    refine r_iadd dX11_does_19 ?_
    rw [show nI (3 * k) + 2 = nI (3 * k + 2) from nI_add _ 2]
    refine r_ialdN rfl dX11_does_20 (by omega) (by omega) hb ?_
    refine r_istore_n (lv' := [(3, _), (2, _), (0, _), (1, _)]) dX11_does_21 (Nat.le_of_ble_eq_true rfl) rfl ?_
    refine r_aload_n dX11_does_22 rfl ?_
    refine r_getR rfl rfl fl_11_70 dX11_does_23 ?_
    refine r_iconst (v := 3) dX11_does_26 rfl ?_
    refine r_iload_n dX11_does_27 rfl ?_
    refine r_imul dX11_does_28 ?_
    rw [e3]
    refine r_ialdN rfl dX11_does_29 (by omega) (by omega) hw ?_
    refine r_tswOut (tgt := 153) dX11_does_30 (Or.inr (by decide)) (by decide) ?_
    by_cases hok : dayP a n ∧ (b = -1 ∨ dayP b n)
    · rw [if_pos hok] at eA
      rw [eA]
      obtain ⟨j, hj, rfl⟩ := dayP_nI hok.1
      rw [nI_clamp (by omega)]
      have vj : I 5 j = V 4 j := (k1.2.2.2.2.2.2.2.2.1.1 j hj).2.2.2.1
      have pj := (k1.2.2.2.2.2.2.2.2.2.1 j hj).2.2.2.1
      have hgt : ¬ V 4 j ≤ -2 := by
        rcases pj with q | q
        · rw [q]; decide
        · intro z
          have := Int32.le_iff_toInt_le.mp z
          have h2 := q.1
          have h3 : (-2 : Int32).toInt = -2 := by decide
          omega
      refine r_aload_n dX11_does_153 rfl ?_
      refine r_iload_n dX11_does_154 rfl ?_
      refine r_iload_n dX11_does_155 rfl ?_
      refine r_cVr (As := [_, _]) (c_X11_at α _ _ _ _ hn hn7) lk_11_285 rfl rfl (by decide) (by decide) rfl rfl (Nat.le_of_ble_eq_true rfl) dX11_does_156 ?_
      rw [if_pos hok, if_pos hok, nI_clamp (by omega), vj]
      refine r_bipush (v := (-2)) dX11_does_159 rfl ?_
      refine r_icmp_le 168 dX11_does_161 (by decide) (fun h161 => absurd h161 hgt) (fun h161 => ?_)
      refine r_iconst (v := 1) dX11_does_164 rfl ?_
      refine r_goto (tgt := 169) dX11_does_165 (by decide) ?_
      refine r_zret rfl (by decide) dX11_does_169 ?_
      exact ⟨_, rfl, rfl, hs.at hj hok.2, doP.rfl'.row (by decide), rfl⟩
    · rw [if_neg hok] at eA
      rw [eA]
      refine r_aload_n dX11_does_153 rfl ?_
      refine r_iload_n dX11_does_154 rfl ?_
      refine r_iload_n dX11_does_155 rfl ?_
      refine r_cVr (As := [_, _]) (c_X11_at α _ _ _ _ hn hn7) lk_11_285 rfl rfl (by decide) (by decide) rfl rfl (Nat.le_of_ble_eq_true rfl) dX11_does_156 ?_
      rw [if_neg hok, if_neg hok]
      refine r_bipush (v := (-2)) dX11_does_159 rfl ?_
      refine r_icmp_le 168 dX11_does_161 (by decide) (fun h161 => ?_) (fun h161 => absurd h161 (by decide))
      refine r_iconst (v := 0) dX11_does_168 rfl ?_
      refine r_zret rfl (by decide) dX11_does_169 ?_
      exact ⟨_, rfl, rfl, bad.1, bad.2, rfl⟩
