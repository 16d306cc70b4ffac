/-! a life as a whole: its rows and its numbers; how the model's cells hold it, and what each telling makes of it -/
/-- the life, its days, notes, pairs, orders told, its rank, the other's, how many are lived -/
abbrev pS : Type := pV × Nat × Nat × Nat × Nat × Nat × Nat × Nat
def stOk (s : pS) : Prop := match s with
  | (V, n, nn, np, nt, rk, ot, ly) => (1 ≤ n ∧ n ≤ 7) ∧ nn ≤ 6 ∧ np ≤ 6 ∧ nt ≤ 3 ∧ rk < fac n ∧ ot < fac n ∧ ly ≤ n ∧ okV V n nn np nt
def mSt (s : pS) (I : fdI) : Prop := match s with
  | (V, n, nn, np, nt, rk, ot, ly) => mOk V I n nn np nt ∧ rk < fac n ∧ (∀ k, k < n → I 6 k = nI (prm n rk k)) ∧ I 0 16 = nI ot ∧ ot < fac n ∧ I 0 17 = nI ly ∧ ly ≤ n
theorem mSt.ok {s : pS} {I : fdI} (h : mSt s I) : stOk s := by
  obtain ⟨V, n, nn, np, nt, rk, ot, ly⟩ := s
  obtain ⟨h1, h2, h3, h4, h5, h6, h7⟩ := h
  obtain ⟨a1, a2, a3, a4, a5, a6, a7, a8, a9, a10⟩ := h1
  exact ⟨a2, a4, a6, a8, h2, h5, h7, a10⟩
/-- cells 0 and the rows of the life alone count -/
theorem mSt.same {s : pS} {I J : fdI} (h : mSt s I) (h0 : ∀ j, j = 1 ∨ j = 7 ∨ j = 10 ∨ j = 13 ∨ j = 16 ∨ j = 17 → J 0 j = I 0 j) (h1 : ∀ a, 2 ≤ a → a ≤ 12 → J a = I a) : mSt s J := by
  obtain ⟨V, n, nn, np, nt, rk, ot, ly⟩ := s
  obtain ⟨k1, k2, k3, k4, k5, k6, k7⟩ := h
  obtain ⟨a1, a2, a3, a4, a5, a6, a7, a8, a9, a10⟩ := k1
  refine ⟨⟨(h0 1 (by decide)).trans a1, a2, (h0 7 (by decide)).trans a3, a4, (h0 10 (by decide)).trans a5, a6, (h0 13 (by decide)).trans a7, a8, ⟨fun d hd => ?_, fun k hk => ?_, fun k hk => ?_, fun k hk => ?_⟩, a10⟩, k2, fun k hk => ?_, (h0 16 (by decide)).trans k4, k5, (h0 17 (by decide)).trans k6, k7⟩
  · obtain ⟨g1, g2, g3, g4, g5⟩ := a9.1 d hd
    exact ⟨(congrFun (h1 2 (by decide) (by decide)) d).trans g1, (congrFun (h1 3 (by decide) (by decide)) d).trans g2, (congrFun (h1 4 (by decide) (by decide)) d).trans g3, (congrFun (h1 5 (by decide) (by decide)) d).trans g4, (congrFun (h1 12 (by decide) (by decide)) d).trans g5⟩
  · exact ⟨(congrFun (h1 7 (by decide) (by decide)) k).trans (a9.2.1 k hk).1, (congrFun (h1 8 (by decide) (by decide)) k).trans (a9.2.1 k hk).2⟩
  · exact ⟨(congrFun (h1 9 (by decide) (by decide)) k).trans (a9.2.2.1 k hk).1, (congrFun (h1 10 (by decide) (by decide)) k).trans (a9.2.2.1 k hk).2⟩
  · exact (congrFun (h1 11 (by decide) (by decide)) k).trans (a9.2.2.2 k hk)
  · rw [h1 6 (by decide) (by decide)]; exact k3 k hk
theorem mSt.sm {s : pS} {I J : fdI} (h : mSt s I) (hs : mSm I J) : mSt s J := h.same (fun j hj => hs.2 j (by omega)) (fun a h1 h2 => hs.1 a (by omega) (by omega) (by omega) (by omega) (by omega) (by omega) (by omega) (by omega))
theorem mSt.refus {s : pS} {I : fdI} {j : Nat} {v : Int32} (h : mSt s I) : mSt s (fd_up I 1 j v) := h.same (fun j hj => by rw [fd_up_ne (by decide)]) (fun a h1 h2 => by rw [fd_up_cell (by omega)])
theorem mSt.sN {s : pS} {I J : fdI} (h : mSt s I) (hs : sN I J s.2.2.1) : mSt s J := by
  obtain ⟨V, n, nn, np, nt, rk, ot, ly⟩ := s
  obtain ⟨k1, k2, k3, k4, k5, k6, k7⟩ := h
  exact ⟨k1.sN hs, k2, fun k hk => by rw [hs.row]; exact k3 k hk, (hs.2.1 16 (by decide)).trans k4, k5, (hs.2.1 17 (by decide)).trans k6, k7⟩
def emV : pV := fun c _ => if c = 4 ∨ c = 5 then -1 else 0
def opLife (n : Nat) : pS := (emV, n, 0, 0, 0, 0, 0, 0)
def opDay (s : pS) (d : Nat) (k : Int32) : pS := match s with
  | (V, n, nn, np, nt, rk, ot, _) => (fd_up V 1 d k, n, nn, np, nt, rk, ot, 0)
def opFact (s : pS) (d w : Nat) (f : Int32) : pS := match s with
  | (V, n, nn, np, nt, rk, ot, _) => (fd_up V (2 + w) d (V (2 + w) d ^^^ (1 <<< (f &&& 31))), n, nn, np, nt, rk, ot, 0)
def opNote (s : pS) (d f : Int32) : pS := match s with
  | (V, n, nn, np, nt, rk, ot, _) => (fd_up (fd_up V 6 nn d) 7 nn f, n, nn + 1, np, nt, rk, ot, 0)
def opAhead (s : pS) (a b : Int32) : pS := match s with
  | (V, n, nn, np, nt, rk, ot, ly) => (fd_up (fd_up V 8 np a) 9 np b, n, nn, np + 1, nt, rk, ot, ly)
def opAt (s : pS) (d : Nat) (k : Int32) : pS := match s with
  | (V, n, nn, np, nt, rk, ot, ly) => (fd_up V 4 d k, n, nn, np, nt, rk, ot, ly)
def opDiary (s : pS) (d : Nat) (k : Int32) : pS := match s with
  | (V, n, nn, np, nt, rk, ot, ly) => (fd_up V 5 d k, n, nn, np, nt, rk, ot, ly)
def opTold (s : pS) (r : Int32) : pS := match s with
  | (V, n, nn, np, nt, rk, ot, ly) => (fd_up V 10 nt r, n, nn, np, nt + 1, rk, ot, ly)
def opOrder (s : pS) (r : Nat) : pS := match s with
  | (V, n, nn, np, nt, _, ot, _) => (V, n, nn, np, nt, r, ot, 0)
def opOther (s : pS) (r : Nat) : pS := match s with
  | (V, n, nn, np, nt, rk, _, ly) => (V, n, nn, np, nt, rk, r, ly)
def opTear (s : pS) (w : Int32) : pS := match s with
  | (V, n, nn, np, nt, rk, ot, ly) => if w = 0 then (V, n, 0, np, nt, rk, ot, 0) else if w = 1 then (V, n, nn, 0, nt, rk, ot, ly) else if w = 2 then (fd_row V 5 (fun _ => -1), n, nn, np, nt, rk, ot, ly) else (V, n, nn, np, 0, rk, ot, ly)
def opLive (s : pS) (ly' : Nat) : pS := match s with
  | (V, n, nn, np, nt, rk, ot, _) => (V, n, nn, np, nt, rk, ot, ly')
theorem okV.up1 {V : pV} {n nn np nt c d : Nat} {v : Int32} (h : okV V n nn np nt) (hd : d < n) (h1 : c = 1 → dayP v 6) (h2 : c = 2 ∨ c = 3 → dayP v 64) (h4 : c = 4 → v = -1 ∨ dayP v n) (h5 : c = 5 → v = -1 ∨ dayP v 64) (hc : 1 ≤ c ∧ c ≤ 5) : okV (fd_up V c d v) n nn np nt := by
  refine ⟨fun e he => ?_, fun k hk => ?_, fun k hk => ?_, fun k hk => ?_⟩
  · obtain ⟨g1, g2, g3, g4, g5⟩ := h.1 e he
    rcases (show c = 1 ∨ c = 2 ∨ c = 3 ∨ c = 4 ∨ c = 5 by omega) with rfl | rfl | rfl | rfl | rfl
    all_goals
      refine ⟨?_, ?_, ?_, ?_, ?_⟩ <;> (first | (rw [fd_up_ne (by decide)]; assumption) | skip)
      rw [fd_up_at]
      split
      · first | exact h1 rfl | exact h2 (by decide) | exact h4 rfl | exact h5 rfl
      · assumption
  · rw [fd_up_ne (by omega), fd_up_ne (by omega)]; exact h.2.1 k hk
  · rw [fd_up_ne (by omega), fd_up_ne (by omega)]; exact h.2.2.1 k hk
  · rw [fd_up_ne (by omega)]; exact h.2.2.2 k hk
theorem mSt.bgI {I I' : fdI} {n : Nat} (hn : 1 ≤ n ∧ n ≤ 7) (h : bgI I I' (nI n)) : mSt (opLife n) I' := by
  obtain ⟨b1, b2, b3, b4, b5, b6, b7, b8, b9⟩ := h
  have hf := fac_pos n
  refine ⟨⟨b3, hn, b4, by omega, b5, by omega, b6, by omega, ⟨fun d hd => ?_, fun k hk => by omega, fun k hk => by omega, fun k hk => by omega⟩, ⟨fun d hd => ?_, fun k hk => by omega, fun k hk => by omega, fun k hk => by omega⟩⟩, hf, fun k hk => ?_, b7, hf, b8, by omega⟩
  · obtain ⟨g1, g2, g3, g4, g5, g6⟩ := b9 d (by omega)
    exact ⟨g1, g2, g3, g4, g6⟩
  · exact ⟨show dayP 0 6 by decide, show dayP 0 64 by decide, show dayP 0 64 by decide, Or.inl rfl, Or.inl rfl⟩
  · rw [(b9 k (by omega)).2.2.2.2.1, prm_0 hn k hk]
theorem mSt.day {s : pS} {I : fdI} {d : Nat} {k : Int32} (h : mSt s I) (hd : d < s.2.1) (hk : dayP k 6) : mSt (opDay s d k) (fd_up (fd_up I 2 d k) 0 17 0) := by
  obtain ⟨V, n, nn, np, nt, rk, ot, ly⟩ := s
  obtain ⟨k1, k2, k3, k4, k5, k6, k7⟩ := h
  obtain ⟨a1, a2, a3, a4, a5, a6, a7, a8, a9, a10⟩ := k1
  refine ⟨⟨a1, a2, a3, a4, a5, a6, a7, a8, ⟨fun e he => ?_, a9.2.1, a9.2.2.1, a9.2.2.2⟩, a10.up1 hd (fun _ => hk) (by omega) (by omega) (by omega) (by decide)⟩, k2, k3, k4, k5, rfl, Nat.zero_le _⟩
  obtain ⟨g1, g2, g3, g4, g5⟩ := a9.1 e he
  refine ⟨?_, g2, g3, g4, g5⟩
  show fd_up I 2 d k 2 e = fd_up V 1 d k 1 e
  rw [fd_up_at, fd_up_at, show I 2 e = V 1 e from g1]
theorem mSt.at {s : pS} {I : fdI} {d : Nat} {k : Int32} (h : mSt s I) (hd : d < s.2.1) (hk : k = -1 ∨ dayP k s.2.1) : mSt (opAt s d k) (fd_up I 5 d k) := by
  obtain ⟨V, n, nn, np, nt, rk, ot, ly⟩ := s
  obtain ⟨k1, k2, k3, k4, k5, k6, k7⟩ := h
  obtain ⟨a1, a2, a3, a4, a5, a6, a7, a8, a9, a10⟩ := k1
  refine ⟨⟨a1, a2, a3, a4, a5, a6, a7, a8, ⟨fun e he => ?_, a9.2.1, a9.2.2.1, a9.2.2.2⟩, a10.up1 hd (by omega) (by omega) (fun _ => hk) (by omega) (by decide)⟩, k2, k3, k4, k5, k6, k7⟩
  obtain ⟨g1, g2, g3, g4, g5⟩ := a9.1 e he
  refine ⟨g1, g2, g3, ?_, g5⟩
  show fd_up I 5 d k 5 e = fd_up V 4 d k 4 e
  rw [fd_up_at, fd_up_at, show I 5 e = V 4 e from g4]
theorem mSt.diary {s : pS} {I : fdI} {d : Nat} {k : Int32} (h : mSt s I) (hd : d < s.2.1) (hk : k = -1 ∨ dayP k 64) : mSt (opDiary s d k) (fd_up I 12 d k) := by
  obtain ⟨V, n, nn, np, nt, rk, ot, ly⟩ := s
  obtain ⟨k1, k2, k3, k4, k5, k6, k7⟩ := h
  obtain ⟨a1, a2, a3, a4, a5, a6, a7, a8, a9, a10⟩ := k1
  refine ⟨⟨a1, a2, a3, a4, a5, a6, a7, a8, ⟨fun e he => ?_, a9.2.1, a9.2.2.1, a9.2.2.2⟩, a10.up1 hd (by omega) (by omega) (by omega) (fun _ => hk) (by decide)⟩, k2, k3, k4, k5, k6, k7⟩
  obtain ⟨g1, g2, g3, g4, g5⟩ := a9.1 e he
  refine ⟨g1, g2, g3, g4, ?_⟩
  show fd_up I 12 d k 12 e = fd_up V 5 d k 5 e
  rw [fd_up_at, fd_up_at, show I 12 e = V 5 e from g5]
theorem xor64 {x f : Int32} (hx : dayP x 64) (hf : dayP f 6) : dayP (x ^^^ (1 <<< (f &&& 31))) 64 := by
  obtain ⟨a, ha, rfl⟩ := dayP_nI hx
  obtain ⟨j, hj, rfl⟩ := dayP_nI hf
  rw [nI_shl1 (by omega)]
  have e : nI a ^^^ nI (2 ^ j) = nI (a ^^^ 2 ^ j) := by
    apply Int32.toBitVec_inj.mp
    show BitVec.ofNat 32 a ^^^ BitVec.ofNat 32 (2 ^ j) = BitVec.ofNat 32 (a ^^^ 2 ^ j)
    apply BitVec.eq_of_toNat_eq
    simp [BitVec.toNat_xor, BitVec.toNat_ofNat, Nat.xor_mod_two_pow]
  rw [e]
  exact nI_dayP (Nat.xor_lt_two_pow (n := 6) ha (show 2 ^ j < 2 ^ 6 from Nat.pow_lt_pow_right (by omega) hj)) (by omega)
theorem mSt.fact {s : pS} {I : fdI} {d w : Nat} {f : Int32} (h : mSt s I) (hd : d < s.2.1) (hw : w < 2) (hf : dayP f 6) : mSt (opFact s d w f) (fd_up (fd_up I (3 + w) d (I (3 + w) d ^^^ (1 <<< (f &&& 31)))) 0 17 0) := by
  obtain ⟨V, n, nn, np, nt, rk, ot, ly⟩ := s
  obtain ⟨k1, k2, k3, k4, k5, k6, k7⟩ := h
  obtain ⟨a1, a2, a3, a4, a5, a6, a7, a8, a9, a10⟩ := k1
  have gd := a9.1 d hd
  have go := a10.1 d hd
  rcases (show w = 0 ∨ w = 1 by omega) with rfl | rfl
  · refine ⟨⟨a1, a2, a3, a4, a5, a6, a7, a8, ⟨fun e he => ?_, a9.2.1, a9.2.2.1, a9.2.2.2⟩, a10.up1 hd (by omega) (fun _ => xor64 go.2.1 hf) (by omega) (by omega) (by decide)⟩, k2, k3, k4, k5, rfl, Nat.zero_le _⟩
    obtain ⟨g1, g2, g3, g4, g5⟩ := a9.1 e he
    refine ⟨g1, ?_, g3, g4, g5⟩
    show fd_up I 3 d (I 3 d ^^^ _) 3 e = fd_up V 2 d (V 2 d ^^^ _) 2 e
    rw [fd_up_at, fd_up_at, show I 3 e = V 2 e from g2, show I 3 d = V 2 d from gd.2.1]
  · refine ⟨⟨a1, a2, a3, a4, a5, a6, a7, a8, ⟨fun e he => ?_, a9.2.1, a9.2.2.1, a9.2.2.2⟩, a10.up1 hd (by omega) (fun _ => xor64 go.2.2.1 hf) (by omega) (by omega) (by decide)⟩, k2, k3, k4, k5, rfl, Nat.zero_le _⟩
    obtain ⟨g1, g2, g3, g4, g5⟩ := a9.1 e he
    refine ⟨g1, g2, ?_, g4, g5⟩
    show fd_up I 4 d (I 4 d ^^^ _) 4 e = fd_up V 3 d (V 3 d ^^^ _) 3 e
    rw [fd_up_at, fd_up_at, show I 4 e = V 3 e from g3, show I 4 d = V 3 d from gd.2.2.1]
theorem mSt.note {s : pS} {I : fdI} {d f : Int32} (h : mSt s I) (hd : dayP d s.2.1) (hf : dayP f 6) (h6 : s.2.2.1 < 6) : mSt (opNote s d f) (fd_up (fd_up (fd_up (fd_up I 7 s.2.2.1 d) 8 s.2.2.1 f) 0 7 (nI (s.2.2.1 + 1))) 0 17 0) := by
  obtain ⟨V, n, nn, np, nt, rk, ot, ly⟩ := s
  obtain ⟨k1, k2, k3, k4, k5, k6, k7⟩ := h
  obtain ⟨a1, a2, a3, a4, a5, a6, a7, a8, a9, a10⟩ := k1
  have h6 : nn < 6 := h6
  refine ⟨⟨a1, a2, rfl, h6, a5, a6, a7, a8, ⟨a9.1, fun k hk => ?_, a9.2.2.1, a9.2.2.2⟩, a10.1, fun k hk => ?_, a10.2.2.1, a10.2.2.2⟩, k2, k3, k4, k5, rfl, Nat.zero_le _⟩
  · show fd_up I 7 nn d 7 k = fd_up V 6 nn d 6 k ∧ fd_up I 8 nn f 8 k = fd_up V 7 nn f 7 k
    rw [fd_up_at, fd_up_at, fd_up_at, fd_up_at]
    by_cases q : k = nn
    · simp [q]
    · rw [if_neg q, if_neg q, if_neg q, if_neg q]; exact a9.2.1 k (by omega)
  · show dayP (fd_up V 6 nn d 6 k) n ∧ dayP (fd_up V 7 nn f 7 k) 6
    rw [fd_up_at, fd_up_at]
    by_cases q : k = nn
    · rw [if_pos q, if_pos q]; exact ⟨hd, hf⟩
    · rw [if_neg q, if_neg q]; exact a10.2.1 k (by omega)
theorem mSt.ahead {s : pS} {I : fdI} {a b : Int32} (h : mSt s I) (ha : dayP a s.2.1) (hb : dayP b s.2.1) (h6 : s.2.2.2.1 < 6) : mSt (opAhead s a b) (fd_up (fd_up (fd_up I 9 s.2.2.2.1 a) 10 s.2.2.2.1 b) 0 10 (nI (s.2.2.2.1 + 1))) := by
  obtain ⟨V, n, nn, np, nt, rk, ot, ly⟩ := s
  obtain ⟨k1, k2, k3, k4, k5, k6, k7⟩ := h
  obtain ⟨a1, a2, a3, a4, a5, a6, a7, a8, a9, a10⟩ := k1
  have h6 : np < 6 := h6
  refine ⟨⟨a1, a2, a3, a4, rfl, h6, a7, a8, ⟨a9.1, a9.2.1, fun k hk => ?_, a9.2.2.2⟩, a10.1, a10.2.1, fun k hk => ?_, a10.2.2.2⟩, k2, k3, k4, k5, k6, k7⟩
  · show fd_up I 9 np a 9 k = fd_up V 8 np a 8 k ∧ fd_up I 10 np b 10 k = fd_up V 9 np b 9 k
    rw [fd_up_at, fd_up_at, fd_up_at, fd_up_at]
    by_cases q : k = np
    · simp [q]
    · rw [if_neg q, if_neg q, if_neg q, if_neg q]; exact a9.2.2.1 k (by omega)
  · show dayP (fd_up V 8 np a 8 k) n ∧ dayP (fd_up V 9 np b 9 k) n
    rw [fd_up_at, fd_up_at]
    by_cases q : k = np
    · rw [if_pos q, if_pos q]; exact ⟨ha, hb⟩
    · rw [if_neg q, if_neg q]; exact a10.2.2.1 k (by omega)
theorem mSt.told {s : pS} {I : fdI} {r : Int32} (h : mSt s I) (hr : dayP r (fac s.2.1)) (h3 : s.2.2.2.2.1 < 3) : mSt (opTold s r) (fd_up (fd_up I 11 s.2.2.2.2.1 r) 0 13 (nI (s.2.2.2.2.1 + 1))) := by
  obtain ⟨V, n, nn, np, nt, rk, ot, ly⟩ := s
  obtain ⟨k1, k2, k3, k4, k5, k6, k7⟩ := h
  obtain ⟨a1, a2, a3, a4, a5, a6, a7, a8, a9, a10⟩ := k1
  have h3 : nt < 3 := h3
  refine ⟨⟨a1, a2, a3, a4, a5, a6, rfl, h3, ⟨a9.1, a9.2.1, a9.2.2.1, fun k hk => ?_⟩, a10.1, a10.2.1, a10.2.2.1, fun k hk => ?_⟩, k2, k3, k4, k5, k6, k7⟩
  · show fd_up I 11 nt r 11 k = fd_up V 10 nt r 10 k
    rw [fd_up_at, fd_up_at]
    by_cases q : k = nt
    · simp [q]
    · rw [if_neg q, if_neg q]; exact a9.2.2.2 k (by omega)
  · show dayP (fd_up V 10 nt r 10 k) (fac n)
    rw [fd_up_at]
    by_cases q : k = nt
    · rw [if_pos q]; exact hr
    · rw [if_neg q]; exact a10.2.2.2 k (by omega)
theorem mSt.order {s : pS} {I I' : fdI} {r : Nat} (h : mSt s I) (hr : r < fac s.2.1) (ho : orP I I' s.2.1 (nI r)) : mSt (opOrder s r) I' := by
  obtain ⟨V, n, nn, np, nt, rk, ot, ly⟩ := s
  obtain ⟨k1, k2, k3, k4, k5, k6, k7⟩ := h
  obtain ⟨a1, a2, a3, a4, a5, a6, a7, a8, a9, a10⟩ := k1
  obtain ⟨o1, o2, o3, o4⟩ := ho
  have hf := fac_le a2.2
  have e : (nI r).toNatClampNeg = r := nI_clamp (by have : r < fac n := hr; omega)
  rw [e] at o4
  have h1 : ∀ a, a ≠ 0 → a ≠ 6 → I' a = I a := o1
  refine ⟨⟨(o2 1 (by decide)).trans a1, a2, (o2 7 (by decide)).trans a3, a4, (o2 10 (by decide)).trans a5, a6, (o2 13 (by decide)).trans a7, a8, ⟨fun d hd => ?_, fun k hk => ?_, fun k hk => ?_, fun k hk => ?_⟩, a10⟩, hr, o4, (o2 16 (by decide)).trans k4, k5, o3, Nat.zero_le _⟩
  · obtain ⟨g1, g2, g3, g4, g5⟩ := a9.1 d hd
    exact ⟨(congrFun (h1 2 (by decide) (by decide)) d).trans g1, (congrFun (h1 3 (by decide) (by decide)) d).trans g2, (congrFun (h1 4 (by decide) (by decide)) d).trans g3, (congrFun (h1 5 (by decide) (by decide)) d).trans g4, (congrFun (h1 12 (by decide) (by decide)) d).trans g5⟩
  · exact ⟨(congrFun (h1 7 (by decide) (by decide)) k).trans (a9.2.1 k hk).1, (congrFun (h1 8 (by decide) (by decide)) k).trans (a9.2.1 k hk).2⟩
  · exact ⟨(congrFun (h1 9 (by decide) (by decide)) k).trans (a9.2.2.1 k hk).1, (congrFun (h1 10 (by decide) (by decide)) k).trans (a9.2.2.1 k hk).2⟩
  · exact (congrFun (h1 11 (by decide) (by decide)) k).trans (a9.2.2.2 k hk)
theorem mSt.other {s : pS} {I : fdI} {r : Nat} (h : mSt s I) (hr : r < fac s.2.1) : mSt (opOther s r) (fd_up I 0 16 (nI r)) := by
  obtain ⟨V, n, nn, np, nt, rk, ot, ly⟩ := s
  obtain ⟨k1, k2, k3, k4, k5, k6, k7⟩ := h
  obtain ⟨a1, a2, a3, a4, a5, a6, a7, a8, a9, a10⟩ := k1
  exact ⟨⟨a1, a2, a3, a4, a5, a6, a7, a8, a9, a10⟩, k2, k3, rfl, hr, k6, k7⟩
theorem mSt.live {s : pS} {I : fdI} {l : Nat} (h : mSt s I) (hl : l ≤ s.2.1) : mSt (opLive s l) (fd_up I 0 17 (nI l)) := by
  obtain ⟨V, n, nn, np, nt, rk, ot, ly⟩ := s
  obtain ⟨k1, k2, k3, k4, k5, k6, k7⟩ := h
  obtain ⟨a1, a2, a3, a4, a5, a6, a7, a8, a9, a10⟩ := k1
  exact ⟨⟨a1, a2, a3, a4, a5, a6, a7, a8, a9, a10⟩, k2, k3, k4, k5, rfl, hl⟩
theorem mSt.tear {s : pS} {I I' : fdI} {w : Int32} (h : mSt s I) (hw : dayP w 4) (ht : teP I I' w) : mSt (opTear s w) I' := by
  obtain ⟨V, n, nn, np, nt, rk, ot, ly⟩ := s
  obtain ⟨k1, k2, k3, k4, k5, k6, k7⟩ := h
  obtain ⟨a1, a2, a3, a4, a5, a6, a7, a8, a9, a10⟩ := k1
  unfold teP at ht
  rw [if_pos hw] at ht
  unfold opTear
  by_cases h0 : w = 0
  · rw [if_pos h0] at ht
    subst ht
    simp only [if_pos h0]
    exact ⟨⟨a1, a2, rfl, by omega, a5, a6, a7, a8, ⟨a9.1, fun k hk => by omega, a9.2.2.1, a9.2.2.2⟩, a10.1, fun k hk => by omega, a10.2.2.1, a10.2.2.2⟩, k2, k3, k4, k5, rfl, Nat.zero_le _⟩
  · rw [if_neg h0] at ht
    by_cases h1 : w = 1
    · rw [if_pos h1] at ht
      subst ht
      simp only [if_neg h0, if_pos h1]
      exact ⟨⟨a1, a2, a3, a4, rfl, by omega, a7, a8, ⟨a9.1, a9.2.1, fun k hk => by omega, a9.2.2.2⟩, a10.1, a10.2.1, fun k hk => by omega, a10.2.2.2⟩, k2, k3, k4, k5, k6, k7⟩
    · rw [if_neg h1] at ht
      by_cases h2 : w = 2
      · rw [if_pos h2] at ht
        simp only [if_neg h0, if_neg h1, if_pos h2]
        obtain ⟨t1, t2⟩ := ht
        have z : I' 0 = I 0 := t1 0 (by decide)
        refine ⟨⟨by rw [z]; exact a1, a2, by rw [z]; exact a3, a4, by rw [z]; exact a5, a6, by rw [z]; exact a7, a8, ⟨fun d hd => ?_, fun k hk => ?_, fun k hk => ?_, fun k hk => ?_⟩, fun d hd => ?_, a10.2.1, a10.2.2.1, a10.2.2.2⟩, k2, fun k hk => by rw [t1 6 (by decide)]; exact k3 k hk, by rw [z]; exact k4, k5, by rw [z]; exact k6, k7⟩
        · obtain ⟨g1, g2, g3, g4, g5⟩ := a9.1 d hd
          refine ⟨(congrFun (t1 2 (by decide)) d).trans g1, (congrFun (t1 3 (by decide)) d).trans g2, (congrFun (t1 4 (by decide)) d).trans g3, (congrFun (t1 5 (by decide)) d).trans g4, ?_⟩
          exact t2 d (by omega)
        · exact ⟨(congrFun (t1 7 (by decide)) k).trans (a9.2.1 k hk).1, (congrFun (t1 8 (by decide)) k).trans (a9.2.1 k hk).2⟩
        · exact ⟨(congrFun (t1 9 (by decide)) k).trans (a9.2.2.1 k hk).1, (congrFun (t1 10 (by decide)) k).trans (a9.2.2.1 k hk).2⟩
        · exact (congrFun (t1 11 (by decide)) k).trans (a9.2.2.2 k hk)
        · obtain ⟨g1, g2, g3, g4, g5⟩ := a10.1 d hd
          exact ⟨g1, g2, g3, g4, Or.inl rfl⟩
      · rw [if_neg h2] at ht
        subst ht
        simp only [if_neg h0, if_neg h1, if_neg h2]
        exact ⟨⟨a1, a2, a3, a4, a5, a6, rfl, by omega, ⟨a9.1, a9.2.1, a9.2.2.1, fun k hk => by omega⟩, a10.1, a10.2.1, a10.2.2.1, fun k hk => by omega⟩, k2, k3, k4, k5, k6, k7⟩
