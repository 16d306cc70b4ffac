/-! the class: how its cells hold a life, through what is told -/
theorem agr.rows {V W W' : pV} {n nn np nt : Nat} (h : agr V W n nn np nt) (e : ∀ c, 1 ≤ c → c ≤ 10 → W' c = W c) : agr V W' n nn np nt := by
  obtain ⟨h1, h2, h3, h4⟩ := h
  refine ⟨fun d hd => ?_, fun k hk => ?_, fun k hk => ?_, fun k hk => ?_⟩
  · rw [e 1 (by decide) (by decide), e 2 (by decide) (by decide), e 3 (by decide) (by decide), e 4 (by decide) (by decide), e 5 (by decide) (by decide)]; exact h1 d hd
  · rw [e 6 (by decide) (by decide), e 7 (by decide) (by decide)]; exact h2 k hk
  · rw [e 8 (by decide) (by decide), e 9 (by decide) (by decide)]; exact h3 k hk
  · rw [e 10 (by decide) (by decide)]; exact h4 k hk
theorem up_congr {V W : pV} {c d x y : Nat} {v : Int32} (h : x = c → y = d ∨ W x y = V x y) (h2 : x ≠ c → W x y = V x y) : fd_up W c d v x y = fd_up V c d v x y := by
  by_cases q : x = c
  · subst q
    rw [fd_up_at, fd_up_at]
    split
    · rfl
    · next z => exact (h rfl).resolve_left z
  · rw [fd_up_ne q, fd_up_ne q]; exact h2 q
theorem up_congr' {V W : pV} {c d x y : Nat} {v : Int32} (h : W x y = V x y) : fd_up W c d v x y = fd_up V c d v x y := up_congr (fun _ => Or.inr h) (fun _ => h)
theorem agr.up {V W : pV} {n nn np nt c d : Nat} {v : Int32} (h : agr V W n nn np nt) : agr (fd_up V c d v) (fd_up W c d v) n nn np nt := by
  obtain ⟨h1, h2, h3, h4⟩ := h
  refine ⟨fun d hd => ?_, fun k hk => ?_, fun k hk => ?_, fun k hk => ?_⟩
  · obtain ⟨a1, a2, a3, a4, a5⟩ := h1 d hd
    exact ⟨up_congr' a1, up_congr' a2, up_congr' a3, up_congr' a4, up_congr' a5⟩
  · exact ⟨up_congr' (h2 k hk).1, up_congr' (h2 k hk).2⟩
  · exact ⟨up_congr' (h3 k hk).1, up_congr' (h3 k hk).2⟩
  · exact up_congr' (h4 k hk)
theorem agr.note {V W : pV} {n nn np nt : Nat} {d f : Int32} (h : agr V W n nn np nt) : agr (fd_up (fd_up V 6 nn d) 7 nn f) (fd_up (fd_up W 6 nn d) 7 nn f) n (nn + 1) np nt := by
  obtain ⟨h1, h2, h3, h4⟩ := (h.up (c := 6) (d := nn) (v := d)).up (c := 7) (d := nn) (v := f)
  refine ⟨h1, fun k hk => ?_, h3, h4⟩
  by_cases q : k = nn
  · subst q
    exact ⟨by rw [fd_up_ne (by decide), fd_up_same, fd_up_ne (by decide), fd_up_same], by rw [fd_up_same, fd_up_same]⟩
  · exact h2 k (by omega)
theorem agr.pair {V W : pV} {n nn np nt : Nat} {d f : Int32} (h : agr V W n nn np nt) : agr (fd_up (fd_up V 8 np d) 9 np f) (fd_up (fd_up W 8 np d) 9 np f) n nn (np + 1) nt := by
  obtain ⟨h1, h2, h3, h4⟩ := (h.up (c := 8) (d := np) (v := d)).up (c := 9) (d := np) (v := f)
  refine ⟨h1, h2, fun k hk => ?_, h4⟩
  by_cases q : k = np
  · subst q
    exact ⟨by rw [fd_up_ne (by decide), fd_up_same, fd_up_ne (by decide), fd_up_same], by rw [fd_up_same, fd_up_same]⟩
  · exact h3 k (by omega)
theorem agr.tolds {V W : pV} {n nn np nt : Nat} {r : Int32} (h : agr V W n nn np nt) : agr (fd_up V 10 nt r) (fd_up W 10 nt r) n nn np (nt + 1) := by
  obtain ⟨h1, h2, h3, h4⟩ := h.up (c := 10) (d := nt) (v := r)
  refine ⟨h1, h2, h3, fun k hk => ?_⟩
  by_cases q : k = nt
  · subst q
    rw [fd_up_same, fd_up_same]
  · exact h4 k (by omega)
theorem xw_up {I : fdI} {b c d : Nat} {v : Int32} : (fun c' => fd_up I (b + c) d v (b + c')) = fd_up (fun c' => I (b + c')) c d v := by
  funext c' x
  by_cases q : c' = c
  · subst q
    show fd_up I _ d v _ x = _
    rw [fd_up_at, fd_up_at]
  · rw [fd_up_ne q]
    exact fd_up_ne (by omega)
theorem agr.slot {V : pV} {I : fdI} {b j n nn np nt : Nat} {v : Int32} (h : agr V (fun c => I (b + c)) n nn np nt) : agr V (fun c => fd_up I b j v (b + c)) n nn np nt := h.rows (fun c c1 _ => fd_up_cell (by omega))
theorem agr.xup {V : pV} {I : fdI} {b c d n nn np nt : Nat} {v : Int32} (h : agr V (fun c => I (b + c)) n nn np nt) : agr (fd_up V c d v) (fun c' => fd_up I (b + c) d v (b + c')) n nn np nt := by
  rw [xw_up]; exact h.up
/-- cells of the life alone count -/
theorem xSt.same {b : Nat} {s : pS} {I J : fdI} (h : xSt b s I) (h0 : ∀ a, b ≤ a → a ≤ b + 10 → J a = I a) : xSt b s J := by
  obtain ⟨V, n, nn, np, nt, rk, ot, ly⟩ := s
  obtain ⟨a0, a1, a2, a3, a4, a5, a6, a7⟩ := h
  have e := h0 b (Nat.le_refl _) (by omega)
  refine ⟨by rw [e]; exact a0, by rw [e]; exact a1, by rw [e]; exact a2, by rw [e]; exact a3, by rw [e]; exact a4, by rw [e]; exact a5, by rw [e]; exact a6, a7.rows fun c _ c2 => h0 _ (by omega) (by omega)⟩
theorem xSt.day {s : pS} {I : fdI} {d : Nat} {k : Int32} (h : xSt 8 s I) : xSt 8 (opDay s d k) (fd_up (fd_up I 9 d k) 8 6 0) := by
  obtain ⟨V, n, nn, np, nt, rk, ot, ly⟩ := s
  obtain ⟨a0, a1, a2, a3, a4, a5, a6, a7⟩ := h
  exact ⟨a0, a1, a2, a3, a4, a5, fd_up_same, (a7.xup (c := 1)).slot⟩
theorem xSt.at {s : pS} {I : fdI} {d : Nat} {k : Int32} (h : xSt 8 s I) : xSt 8 (opAt s d k) (fd_up I 12 d k) := by
  obtain ⟨V, n, nn, np, nt, rk, ot, ly⟩ := s
  obtain ⟨a0, a1, a2, a3, a4, a5, a6, a7⟩ := h
  exact ⟨a0, a1, a2, a3, a4, a5, a6, a7.xup (c := 4)⟩
theorem xSt.diary {s : pS} {I : fdI} {d : Nat} {k : Int32} (h : xSt 8 s I) : xSt 8 (opDiary s d k) (fd_up I 13 d k) := by
  obtain ⟨V, n, nn, np, nt, rk, ot, ly⟩ := s
  obtain ⟨a0, a1, a2, a3, a4, a5, a6, a7⟩ := h
  exact ⟨a0, a1, a2, a3, a4, a5, a6, a7.xup (c := 5)⟩
theorem xSt.fact {s : pS} {I : fdI} {d w : Nat} {f : Int32} (h : xSt 8 s I) (hw : w < 2) (hd : d < s.2.1) : xSt 8 (opFact s d w f) (fd_up (fd_up I (10 + w) d (I (10 + w) d ^^^ (1 <<< (f &&& 31)))) 8 6 0) := by
  obtain ⟨V, n, nn, np, nt, rk, ot, ly⟩ := s
  obtain ⟨a0, a1, a2, a3, a4, a5, a6, a7⟩ := h
  have e : I (10 + w) d = V (2 + w) d := by
    obtain ⟨g1, g2, g3, g4, g5⟩ := a7.1 d hd
    rcases (show w = 0 ∨ w = 1 by omega) with rfl | rfl
    · exact g2
    · exact g3
  have k := (a7.xup (c := 2 + w) (d := d) (v := I (10 + w) d ^^^ (1 <<< (f &&& 31)))).slot (j := 6) (v := 0)
  rw [show 8 + (2 + w) = 10 + w by omega] at k
  refine ⟨?_, ?_, ?_, ?_, ?_, ?_, fd_up_same, ?_⟩
  · rw [fd_up_pl (by decide), fd_up_ne (by omega)]; exact a0
  · rw [fd_up_pl (by decide), fd_up_ne (by omega)]; exact a1
  · rw [fd_up_pl (by decide), fd_up_ne (by omega)]; exact a2
  · rw [fd_up_pl (by decide), fd_up_ne (by omega)]; exact a3
  · rw [fd_up_pl (by decide), fd_up_ne (by omega)]; exact a4
  · rw [fd_up_pl (by decide), fd_up_ne (by omega)]; exact a5
  · rw [e] at k ⊢
    exact k
theorem xSt.note {s : pS} {I : fdI} {d f : Int32} (h : xSt 8 s I) : xSt 8 (opNote s d f) (fd_up (fd_up (fd_up (fd_up I 14 s.2.2.1 d) 15 s.2.2.1 f) 8 6 0) 8 1 (nI (s.2.2.1 + 1))) := by
  obtain ⟨V, n, nn, np, nt, rk, ot, ly⟩ := s
  obtain ⟨a0, a1, a2, a3, a4, a5, a6, a7⟩ := h
  refine ⟨a0, fd_up_same, a2, a3, a4, a5, (fd_up_pl (by decide)).trans fd_up_same, ?_⟩
  have k := a7.note (d := d) (f := f)
  rw [← xw_up (b := 8) (c := 6)] at k
  rw [← xw_up (I := fd_up I (8 + 6) nn d) (b := 8) (c := 7)] at k
  exact (k.slot (I := fd_up (fd_up I 14 nn d) 15 nn f) (j := 6) (v := 0)).slot
theorem xSt.ahead {s : pS} {I : fdI} {d f : Int32} (h : xSt 8 s I) : xSt 8 (opAhead s d f) (fd_up (fd_up (fd_up I 16 s.2.2.2.1 d) 17 s.2.2.2.1 f) 8 2 (nI (s.2.2.2.1 + 1))) := by
  obtain ⟨V, n, nn, np, nt, rk, ot, ly⟩ := s
  obtain ⟨a0, a1, a2, a3, a4, a5, a6, a7⟩ := h
  refine ⟨a0, a1, fd_up_same, a3, a4, a5, a6, ?_⟩
  have k := a7.pair (d := d) (f := f)
  rw [← xw_up (b := 8) (c := 8)] at k
  rw [← xw_up (I := fd_up I (8 + 8) np d) (b := 8) (c := 9)] at k
  exact k.slot (I := fd_up (fd_up I 16 np d) 17 np f)
theorem xSt.told {s : pS} {I : fdI} {r : Int32} (h : xSt 8 s I) : xSt 8 (opTold s r) (fd_up (fd_up I 18 s.2.2.2.2.1 r) 8 3 (nI (s.2.2.2.2.1 + 1))) := by
  obtain ⟨V, n, nn, np, nt, rk, ot, ly⟩ := s
  obtain ⟨a0, a1, a2, a3, a4, a5, a6, a7⟩ := h
  refine ⟨a0, a1, a2, fd_up_same, a4, a5, a6, ?_⟩
  have k := a7.tolds (r := r)
  rw [← xw_up (b := 8) (c := 10)] at k
  exact k.slot (I := fd_up I 18 nt r)
theorem xSt.order {s : pS} {I : fdI} {r : Nat} (h : xSt 8 s I) : xSt 8 (opOrder s r) (fd_up (fd_up I 8 4 (nI r)) 8 6 0) := by
  obtain ⟨V, n, nn, np, nt, rk, ot, ly⟩ := s
  obtain ⟨a0, a1, a2, a3, a4, a5, a6, a7⟩ := h
  exact ⟨a0, a1, a2, a3, (fd_up_pl (by decide)).trans fd_up_same, a5, fd_up_same, a7.slot.slot⟩
theorem xSt.other {s : pS} {I : fdI} {r : Nat} (h : xSt 8 s I) : xSt 8 (opOther s r) (fd_up I 8 5 (nI r)) := by
  obtain ⟨V, n, nn, np, nt, rk, ot, ly⟩ := s
  obtain ⟨a0, a1, a2, a3, a4, a5, a6, a7⟩ := h
  exact ⟨a0, a1, a2, a3, a4, fd_up_same, a6, a7.slot⟩
theorem xSt.live {s : pS} {I : fdI} {l : Nat} (h : xSt 8 s I) : xSt 8 (opLive s l) (fd_up I 8 6 (nI l)) := by
  obtain ⟨V, n, nn, np, nt, rk, ot, ly⟩ := s
  obtain ⟨a0, a1, a2, a3, a4, a5, a6, a7⟩ := h
  exact ⟨a0, a1, a2, a3, a4, a5, fd_up_same, a7.slot⟩
theorem xSt.life {I I' : fdI} {n : Nat} (hn : n ≤ 7) (h : anI I I' (nI n)) : xSt 8 (opLife n) I' := by
  obtain ⟨h0, h1, h2, h3, h4, h5, h6, h7, h8⟩ := h
  refine ⟨h1, h2, h3, h4, h5, h6, h7, fun d hd => ?_, fun k hk => absurd hk (by omega), fun k hk => absurd hk (by omega), fun k hk => absurd hk (by omega)⟩
  obtain ⟨g1, g2, g3, g4, g5⟩ := h8 d (by omega)
  exact ⟨g1, g2, g3, g4, g5⟩
theorem xSt.tear {s : pS} {I I' : fdI} {w : Int32} (hs : stOk s) (h : xSt 8 s I) (ht : if w = 0 then I' = fd_up (fd_up I 8 1 0) 8 6 0 else if w = 1 then I' = fd_up I 8 2 0 else if w = 2 then (∀ a, a ≠ 13 → I' a = I a) ∧ ∀ k, k < 7 → I' 13 k = -1 else I' = fd_up I 8 3 0) : xSt 8 (opTear s w) I' := by
  obtain ⟨V, n, nn, np, nt, rk, ot, ly⟩ := s
  obtain ⟨a0, a1, a2, a3, a4, a5, a6, a7⟩ := h
  unfold opTear
  by_cases w0 : w = 0
  · rw [if_pos w0] at ht
    simp only [if_pos w0]
    subst ht
    have k := (a7.slot (j := 1) (v := 0)).slot (I := fd_up I 8 1 0) (j := 6) (v := 0)
    exact ⟨a0, (fd_up_pl (by decide)).trans fd_up_same, a2, a3, a4, a5, fd_up_same, k.1, fun k hk => absurd hk (by omega), k.2.2.1, k.2.2.2⟩
  · rw [if_neg w0] at ht
    simp only [if_neg w0]
    by_cases w1 : w = 1
    · rw [if_pos w1] at ht
      simp only [if_pos w1]
      subst ht
      have k := a7.slot (j := 2) (v := 0)
      exact ⟨a0, a1, fd_up_same, a3, a4, a5, a6, k.1, k.2.1, fun k hk => absurd hk (by omega), k.2.2.2⟩
    · rw [if_neg w1] at ht
      simp only [if_neg w1]
      by_cases w2 : w = 2
      · rw [if_pos w2] at ht
        simp only [if_pos w2]
        obtain ⟨t1, t2⟩ := ht
        have e := t1 8 (by decide)
        have hn7 := hs.1.2
        refine ⟨by rw [e]; exact a0, by rw [e]; exact a1, by rw [e]; exact a2, by rw [e]; exact a3, by rw [e]; exact a4, by rw [e]; exact a5, by rw [e]; exact a6, fun d hd => ?_, fun k hk => ?_, fun k hk => ?_, fun k hk => ?_⟩
        · obtain ⟨g1, g2, g3, g4, g5⟩ := a7.1 d hd
          refine ⟨?_, ?_, ?_, ?_, ?_⟩
          · rw [fd_row_ne (by decide)]; exact (congrFun (t1 9 (by decide)) d).trans g1
          · rw [fd_row_ne (by decide)]; exact (congrFun (t1 10 (by decide)) d).trans g2
          · rw [fd_row_ne (by decide)]; exact (congrFun (t1 11 (by decide)) d).trans g3
          · rw [fd_row_ne (by decide)]; exact (congrFun (t1 12 (by decide)) d).trans g4
          · rw [fd_row_same]; exact t2 d (by omega)
        · rw [fd_row_ne (by decide), fd_row_ne (by decide)]; exact ⟨(congrFun (t1 14 (by decide)) k).trans (a7.2.1 k hk).1, (congrFun (t1 15 (by decide)) k).trans (a7.2.1 k hk).2⟩
        · rw [fd_row_ne (by decide), fd_row_ne (by decide)]; exact ⟨(congrFun (t1 16 (by decide)) k).trans (a7.2.2.1 k hk).1, (congrFun (t1 17 (by decide)) k).trans (a7.2.2.1 k hk).2⟩
        · rw [fd_row_ne (by decide)]; exact (congrFun (t1 18 (by decide)) k).trans (a7.2.2.2 k hk)
      · rw [if_neg w2] at ht
        simp only [if_neg w2]
        subst ht
        have k := a7.slot (j := 3) (v := 0)
        exact ⟨a0, a1, a2, fd_up_same, a4, a5, a6, k.1, k.2.1, k.2.2.1, fun k hk => absurd hk (by omega)⟩
