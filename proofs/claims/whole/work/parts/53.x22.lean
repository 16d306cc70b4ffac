/-! the class: it follows an order; what is so in it -/
theorem cnN_up {g h : Nat → Bool} {m j : Nat} (hj : j < m) (e : ∀ i, i < m → i ≠ j → g i = h i) : cnN g m + (if h j then 1 else 0) = cnN h m + (if g j then 1 else 0) := by
  induction m with
  | zero => omega
  | succ m ih =>
    show cnN g m + (if g m then 1 else 0) + _ = cnN h m + (if h m then 1 else 0) + _
    by_cases q : j = m
    · subst q
      have e1 : cnN g j = cnN h j := cnN_congr fun i hi => e i (by omega) (by omega)
      rw [e1]
      omega
    · have e2 := ih (by omega) (fun i hi hn => e i (by omega) hn)
      rw [e m (by omega) (by omega)]
      omega
theorem cnN_perm : ∀ (n : Nat) (f : Nat → Bool) (p : Nat → Nat), isP p n → cnN (fun k => f (p k)) n = cnN f n := by
  intro n
  induction n with
  | zero => intro f p _; rfl
  | succ m ih =>
    intro f p hp
    show cnN (fun k => f (p k)) m + (if f (p m) then 1 else 0) = cnN f m + (if f m then 1 else 0)
    by_cases hm : p m = m
    · have hq : isP p m := by
        refine ⟨fun k hk => ?_, fun i j hi hj e => hp.2 i j (by omega) (by omega) e⟩
        have h1 := hp.1 k (by omega)
        have h2 : p k ≠ m := fun z => by
          have := hp.2 k m (by omega) (by omega) (by rw [z, hm])
          omega
        omega
      rw [ih f p hq, hm]
    · obtain ⟨j, hj, ej⟩ := isP_sur hp m (by omega)
      have hjm : j < m := by
        have : j ≠ m := fun z => hm (by rw [z] at ej; exact ej)
        omega
      have hpm := hp.1 m (by omega)
      have hq : isP (fun k => if k = j then p m else p k) m := by
        refine ⟨fun k hk => ?_, fun i k hi hk e => ?_⟩
        · show (if k = j then p m else p k) < m
          split
          · omega
          · next c =>
            have h1 := hp.1 k (by omega)
            have h2 : p k ≠ m := fun z => c (hp.2 k j (by omega) (by omega) (by rw [z, ej]))
            omega
        · have e : (if i = j then p m else p i) = (if k = j then p m else p k) := e
          by_cases c1 : i = j
          · by_cases c2 : k = j
            · omega
            · rw [if_pos c1, if_neg c2] at e
              have := hp.2 m k (by omega) (by omega) e
              omega
          · by_cases c2 : k = j
            · rw [if_neg c1, if_pos c2] at e
              have := hp.2 i m (by omega) (by omega) e
              omega
            · rw [if_neg c1, if_neg c2] at e
              exact hp.2 i k (by omega) (by omega) e
      have h1 := ih f _ hq
      have h2 := cnN_up (g := fun k => f (p k)) (h := fun k => f (if k = j then p m else p k)) hjm (fun i _ hn => by
        show f (p i) = f (if i = j then p m else p i)
        rw [if_neg hn])
      rw [h1] at h2
      have e3 : (if (fun k => f (if k = j then p m else p k)) j = true then 1 else 0) = (if f (p m) = true then 1 else 0) := by
        show (if f (if j = j then p m else p j) = true then 1 else 0) = _
        rw [if_pos (show j = j from rfl)]
      have e4 : (if (fun k => f (p k)) j = true then 1 else 0) = (if f m = true then 1 else 0) := by
        show (if f (p j) = true then 1 else 0) = _
        rw [ej]
      rw [e3, e4] at h2
      exact h2
theorem wlN_perm {V : pV} {n nn : Nat} {p : Nat → Nat} (hp : isP p n) : cnN (fun k => wlB V (knV V n nn p) (p k)) n = wlN V n nn p := cnN_perm n _ p hp
/-- only the course has changed -/
def cfr (I I' : fdI) : Prop := ∀ a, a < 57 ∨ 67 < a → I' a = I a
theorem cfr.rfl' {I : fdI} : cfr I I := fun _ _ => rfl
theorem cfr.trans {I J K : fdI} (h : cfr I J) (h2 : cfr J K) : cfr I K := fun a ha => (h2 a ha).trans (h a ha)
theorem cfr.st {b : Nat} {s : pS} {I J : fdI} (h : cfr I J) (hx : xSt b s I) (hb : b + 10 < 57) : xSt b s J := hx.same (fun a _ a2 => h a (by omega))
theorem xOut.ask {s : pS} {r : Int32} {I I1 : fdI} {L : fdL} (hx : xSt 8 s I) (c : cfr I I1) : xOut (r, s, 3) I L (.int r) I1 L := xOut.none (c.st hx (by decide)) (fun a ha => c a (by omega)) (c 76 (by decide))
theorem xOut.ref {s : pS} {I I1 : fdI} {L : fdL} {r : Int32} {q : Nat} (hx : xSt 8 s I) (c : cfr I I1) (hq : qOf r = q) : xOut (r, s, q) I L (.int r) (cnX r I1) L := xOut.cn (c.st hx (by decide)) (fun a ha => c a (by omega)) (c 76 (by decide)) hq
/-- the course stands on p -/
def crX (V : pV) (n nn : Nat) (p : Nat → Nat) (I : fdI) : Prop := lkX V n nn I ∧ orX n p I ∧ plX n p I
def flP (V : pV) (n nn r : Nat) (I : fdI) (L : fdL) (I' : fdI) (L' : fdL) : Prop := L' = L ∧ cfr I I' ∧ crX V n nn (prm n r) I' ∧ lvX V n nn (prm n r) I'
theorem stOk.nd {s : pS} (hs : stOk s) : ∀ k, k < s.2.2.1 → dayP (s.1 6 k) s.2.1 := fun k hk => (hs.v.2.1 k hk).1
theorem lkC.same {V : pV} {n : Nat} {N : Nat → Int32} {I J : fdI} (h : lkC V n N I) (e : ∀ a, a = 57 ∨ a = 60 ∨ a = 61 ∨ a = 62 ∨ a = 63 ∨ a = 64 → J a = I a) : lkC V n N J := by
  refine ⟨by rw [e 57 (by decide)]; exact h.1, fun d hd => ?_⟩
  rw [e 60 (by decide), e 61 (by decide), e 62 (by decide), e 63 (by decide), e 64 (by decide)]
  exact h.2 d hd
theorem crX.same {V : pV} {n nn : Nat} {p : Nat → Nat} {I J : fdI} (h : crX V n nn p I) (e : ∀ a, 57 ≤ a → a ≤ 64 → J a = I a) : crX V n nn p J := ⟨h.1.same (fun a ha => e a (by omega) (by omega)), fun k hk => by rw [e 58 (by decide) (by decide)]; exact h.2.1 k hk, fun k hk => by rw [e 59 (by decide) (by decide)]; exact h.2.2 k hk⟩
theorem c_X10_follow (s : pS) (α : Nat → Nat) (I : fdI) (L : fdL) (r : Nat) (hs : stOk s) (hx : xSt 8 s I) (hr : r < fac s.2.1) : Con fd_SX α yX10_follow mX10_follow [.ref (α 0), .int (nI r)] I L (fd_vp (flP s.1 s.2.1 s.2.2.1 r I L)) := by
  refine Con.of (by decide) rfl (Nat.le_of_ble_eq_true rfl) ?_
  have hn7 := hs.n7
  have hP := prm_P hn7 hr
  refine r_aload_n dX10_follow_0 rfl ?_
  refine r_getR rfl rfl fl_10_43 dX10_follow_1 ?_
  refine r_aload_n dX10_follow_4 rfl ?_
  refine r_getR rfl rfl fl_10_18 dX10_follow_5 ?_
  refine r_aload_n dX10_follow_8 rfl ?_
  refine r_getR rfl rfl fl_10_11 dX10_follow_9 ?_
  refine r_cVq (As := [_, _]) (c_X2_lookAt s α _ _ hs hx) lk_10_270 rfl rfl (by decide) (by decide) rfl rfl (Nat.le_of_ble_eq_true rfl) dX10_follow_12 (fun I12 L12 q12 => ?_)
  obtain ⟨rfl, f12, k12⟩ := q12
  refine r_aload_n dX10_follow_15 rfl ?_
  refine r_getR rfl rfl fl_10_43 dX10_follow_16 ?_
  refine r_iload_n dX10_follow_19 rfl ?_
  refine r_cVq (As := [_]) (c_X2_goTo α _ _ r k12.1 hn7 hr) lk_10_274 rfl rfl (by decide) (by decide) rfl rfl (Nat.le_of_ble_eq_true rfl) dX10_follow_20 (fun I20 L20 q20 => ?_)
  obtain ⟨rfl, f20, o20, p20⟩ := q20
  have k20 := k12.same (fun a ha => f20 a (by omega) (by omega))
  refine r_aload_n dX10_follow_23 rfl ?_
  refine r_getR rfl rfl fl_10_43 dX10_follow_24 ?_
  refine r_cVq (As := []) (c_X2_liveThrough s.1 α _ _ hn7 hs.nd hP k20 o20) lk_10_232 rfl rfl (by decide) (by decide) rfl rfl (Nat.le_of_ble_eq_true rfl) dX10_follow_27 (fun I27 L27 q27 => ?_)
  obtain ⟨rfl, f27, l27⟩ := q27
  refine r_vret rfl dX10_follow_30 ?_
  refine ⟨rfl, rfl, fun a ha => ?_, ?_, l27⟩
  · rw [f27 a (by omega), f20 a (by omega) (by omega), f12 a (by omega)]
  · exact crX.same ⟨k20, o20, p20⟩ (fun a a1 a2 => f27 a (by omega))
def ltV (V : pV) (n nn np : Nat) (p : Nat → Nat) (I : fdI) (L : fdL) (v : Value) (I' : fdI) (L' : fdL) : Prop := v = .int (fd_b (tlB V n np p = true)) ∧ L' = L ∧ (∀ a, a < 65 ∨ 67 < a → I' a = I a) ∧ (tlB V n np p = true → lvX V n nn p I')
theorem c_X10_livesAsTold (s : pS) (α : Nat → Nat) (I : fdI) (L : fdL) {p : Nat → Nat} (hs : stOk s) (hD : stD s) (hx : xSt 8 s I) (hp : isP p s.2.1) (hc : crX s.1 s.2.1 s.2.2.1 p I) : Con fd_SX α yX10_livesAsTold mX10_livesAsTold [.ref (α 0)] I L (fd_ip (ltV s.1 s.2.1 s.2.2.1 s.2.2.2.1 p I L)) := by
  refine Con.of (by decide) rfl (Nat.le_of_ble_eq_true rfl) ?_
  have hn7 := hs.n7
  by_cases ht : tlB s.1 s.2.1 s.2.2.2.1 p = true
  · refine r_aload_n dX10_livesAsTold_0 rfl ?_
    refine r_getR rfl rfl fl_10_43 dX10_livesAsTold_1 ?_
    refine r_aload_n dX10_livesAsTold_4 rfl ?_
    refine r_getR rfl rfl fl_10_18 dX10_livesAsTold_5 ?_
    refine r_cVr (As := [_]) (c_X2_keepsTold s α _ _ hs hD hx hp hc.1.1 hc.2.2) lk_10_277 rfl rfl (by decide) (by decide) rfl rfl (Nat.le_of_ble_eq_true rfl) dX10_livesAsTold_8 ?_
    refine r_if_ne 16 dX10_livesAsTold_11 (by decide) (fun h11 => ?_) (fun h11 => absurd h11 (fd_bn.mpr ht))
    refine r_aload_n dX10_livesAsTold_16 rfl ?_
    refine r_getR rfl rfl fl_10_43 dX10_livesAsTold_17 ?_
    refine r_cVq (As := []) (c_X2_liveThrough s.1 α _ _ hn7 hs.nd hp hc.1 hc.2.1) lk_10_232 rfl rfl (by decide) (by decide) rfl rfl (Nat.le_of_ble_eq_true rfl) dX10_livesAsTold_20 (fun I20 L20 q20 => ?_)
    obtain ⟨rfl, f20, l20⟩ := q20
    refine r_iconst (v := 1) dX10_livesAsTold_23 rfl ?_
    refine r_zret rfl (by decide) dX10_livesAsTold_24 ?_
    exact ⟨_, rfl, by rw [fd_b_t ht], rfl, f20, fun _ => l20⟩
  · refine r_aload_n dX10_livesAsTold_0 rfl ?_
    refine r_getR rfl rfl fl_10_43 dX10_livesAsTold_1 ?_
    refine r_aload_n dX10_livesAsTold_4 rfl ?_
    refine r_getR rfl rfl fl_10_18 dX10_livesAsTold_5 ?_
    refine r_cVr (As := [_]) (c_X2_keepsTold s α _ _ hs hD hx hp hc.1.1 hc.2.2) lk_10_277 rfl rfl (by decide) (by decide) rfl rfl (Nat.le_of_ble_eq_true rfl) dX10_livesAsTold_8 ?_
    refine r_if_ne 16 dX10_livesAsTold_11 (by decide) (fun h11 => absurd h11 (not_not_intro (fd_b0.mpr ht))) (fun h11 => ?_)
    refine r_iconst (v := 0) dX10_livesAsTold_14 rfl ?_
    refine r_zret rfl (by decide) dX10_livesAsTold_15 ?_
    exact ⟨_, rfl, by rw [fd_b_f ht], rfl, fun _ _ => rfl, fun q => absurd q ht⟩
def htV (V : pV) (n nn np : Nat) (p : Nat → Nat) (I : fdI) (L : fdL) (v : Value) (I' : fdI) (L' : fdL) : Prop := v = .int (fd_b (hgB V n nn np p = true)) ∧ L' = L ∧ ∀ a, a < 65 ∨ 67 < a → I' a = I a
theorem lvX.k {V : pV} {n nn : Nat} {p : Nat → Nat} {I : fdI} (h : lvX V n nn p I) : ∀ d, d < n → I 67 d = knV V n nn p d := fun d hd => (h d hd).2.2
theorem wlN_le {V : pV} {n nn : Nat} {p : Nat → Nat} : wlN V n nn p ≤ n := cnN_le _ _
theorem c_X10_hangsTogether (s : pS) (α : Nat → Nat) (I : fdI) (L : fdL) {p : Nat → Nat} (hs : stOk s) (hD : stD s) (hx : xSt 8 s I) (hp : isP p s.2.1) (hc : crX s.1 s.2.1 s.2.2.1 p I) : Con fd_SX α yX10_hangsTogether mX10_hangsTogether [.ref (α 0)] I L (fd_ip (htV s.1 s.2.1 s.2.2.1 s.2.2.2.1 p I L)) := by
  refine Con.of (by decide) rfl (Nat.le_of_ble_eq_true rfl) ?_
  have hn7 := hs.n7
  have hwl := wlN_le (V := s.1) (n := s.2.1) (nn := s.2.2.1) (p := p)
  by_cases ht : tlB s.1 s.2.1 s.2.2.2.1 p = true
  · by_cases hw : wlN s.1 s.2.1 s.2.2.1 p = s.2.1
    · have hg : hgB s.1 s.2.1 s.2.2.1 s.2.2.2.1 p = true := by unfold hgB; rw [ht, hw, Nat.beq_refl]; rfl
      refine r_aload_n dX10_hangsTogether_0 rfl ?_
      refine r_cVp (As := []) (c_X10_livesAsTold s α _ _ hs hD hx hp hc) lk_10_205 rfl rfl (by decide) (by decide) rfl rfl (Nat.le_of_ble_eq_true rfl) dX10_hangsTogether_1 (fun v1 I1 L1 q1 => ?_)
      obtain ⟨rfl, rfl, f1, l1⟩ := q1
      have l1 := l1 ht
      have c1 := hc.same (fun a a1 a2 => f1 a (by omega))
      have x1 := xSt.same hx (J := I1) (fun a _ a2 => f1 a (by omega))
      refine r_if_eq 35 dX10_hangsTogether_4 (by decide) (fun h4 => absurd h4 (fd_bn.mpr ht)) (fun h4 => ?_)
      refine r_aload_n dX10_hangsTogether_7 rfl ?_
      refine r_getR rfl rfl fl_10_43 dX10_hangsTogether_8 ?_
      refine r_aload_n dX10_hangsTogether_11 rfl ?_
      refine r_getR rfl rfl fl_10_18 dX10_hangsTogether_12 ?_
      refine r_getV rfl rfl fl_10_170 dX10_hangsTogether_15 x1.n ?_
      refine r_cVr (As := [_]) (c_X2_wellAmong s.1 (knV s.1 s.2.1 s.2.2.1 p) α _ _ s.2.1 hn7 (Nat.le_refl _) hp c1.1 c1.2.1 l1.k) lk_10_173 rfl rfl (by decide) (by decide) rfl rfl (Nat.le_of_ble_eq_true rfl) dX10_hangsTogether_18 ?_
      rw [wlN_perm hp]
      refine r_aload_n dX10_hangsTogether_21 rfl ?_
      refine r_getR rfl rfl fl_10_18 dX10_hangsTogether_22 ?_
      refine r_getV rfl rfl fl_10_170 dX10_hangsTogether_25 x1.n ?_
      refine r_icmp_ne 35 dX10_hangsTogether_28 (by decide) (fun h28 => absurd h28 (not_not_intro (by rw [hw]))) (fun h28 => ?_)
      refine r_iconst (v := 1) dX10_hangsTogether_31 rfl ?_
      refine r_goto (tgt := 36) dX10_hangsTogether_32 (by decide) ?_
      refine r_zret rfl (by decide) dX10_hangsTogether_36 ?_
      exact ⟨_, rfl, by rw [fd_b_t hg], rfl, f1⟩
    · have hg : ¬ hgB s.1 s.2.1 s.2.2.1 s.2.2.2.1 p = true := by
        unfold hgB
        rw [nbf hw]
        exact fun q => by cases q
      refine r_aload_n dX10_hangsTogether_0 rfl ?_
      refine r_cVp (As := []) (c_X10_livesAsTold s α _ _ hs hD hx hp hc) lk_10_205 rfl rfl (by decide) (by decide) rfl rfl (Nat.le_of_ble_eq_true rfl) dX10_hangsTogether_1 (fun v1 I1 L1 q1 => ?_)
      obtain ⟨rfl, rfl, f1, l1⟩ := q1
      have l1 := l1 ht
      have c1 := hc.same (fun a a1 a2 => f1 a (by omega))
      have x1 := xSt.same hx (J := I1) (fun a _ a2 => f1 a (by omega))
      refine r_if_eq 35 dX10_hangsTogether_4 (by decide) (fun h4 => absurd h4 (fd_bn.mpr ht)) (fun h4 => ?_)
      refine r_aload_n dX10_hangsTogether_7 rfl ?_
      refine r_getR rfl rfl fl_10_43 dX10_hangsTogether_8 ?_
      refine r_aload_n dX10_hangsTogether_11 rfl ?_
      refine r_getR rfl rfl fl_10_18 dX10_hangsTogether_12 ?_
      refine r_getV rfl rfl fl_10_170 dX10_hangsTogether_15 x1.n ?_
      refine r_cVr (As := [_]) (c_X2_wellAmong s.1 (knV s.1 s.2.1 s.2.2.1 p) α _ _ s.2.1 hn7 (Nat.le_refl _) hp c1.1 c1.2.1 l1.k) lk_10_173 rfl rfl (by decide) (by decide) rfl rfl (Nat.le_of_ble_eq_true rfl) dX10_hangsTogether_18 ?_
      rw [wlN_perm hp]
      refine r_aload_n dX10_hangsTogether_21 rfl ?_
      refine r_getR rfl rfl fl_10_18 dX10_hangsTogether_22 ?_
      refine r_getV rfl rfl fl_10_170 dX10_hangsTogether_25 x1.n ?_
      refine r_icmp_ne 35 dX10_hangsTogether_28 (by decide) (fun h28 => ?_) (fun h28 => absurd h28 (fun q => hw ((nI_eq (by omega) (by omega)).mp q)))
      refine r_iconst (v := 0) dX10_hangsTogether_35 rfl ?_
      refine r_zret rfl (by decide) dX10_hangsTogether_36 ?_
      exact ⟨_, rfl, by rw [fd_b_f hg], rfl, f1⟩
  · have hg : ¬ hgB s.1 s.2.1 s.2.2.1 s.2.2.2.1 p = true := by
      unfold hgB
      intro q
      rw [Bool.and_eq_true] at q
      exact ht q.2
    refine r_aload_n dX10_hangsTogether_0 rfl ?_
    refine r_cVp (As := []) (c_X10_livesAsTold s α _ _ hs hD hx hp hc) lk_10_205 rfl rfl (by decide) (by decide) rfl rfl (Nat.le_of_ble_eq_true rfl) dX10_hangsTogether_1 (fun v1 I1 L1 q1 => ?_)
    obtain ⟨rfl, rfl, f1, l1⟩ := q1
    refine r_if_eq 35 dX10_hangsTogether_4 (by decide) (fun h4 => ?_) (fun h4 => absurd h4 (not_not_intro (fd_b0.mpr ht)))
    refine r_iconst (v := 0) dX10_hangsTogether_35 rfl ?_
    refine r_zret rfl (by decide) dX10_hangsTogether_36 ?_
    exact ⟨_, rfl, by rw [fd_b_f hg], rfl, f1⟩
