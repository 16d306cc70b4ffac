/-! the model's contracts, as outcomes -/
def mFr (I I' : fdI) : Prop := I' 20 = I 20 ∧ I' 23 = I 23 ∧ I' 24 = I 24 ∧ I' 0 29 = I 0 29
theorem mFr.rfl' {I : fdI} : mFr I I := ⟨rfl, rfl, rfl, rfl⟩
theorem mFr.up {I I1 : fdI} {k j : Nat} {v : Int32} (h : mFr I I1) (hk : k ≠ 20 ∧ k ≠ 23 ∧ k ≠ 24 ∧ (k ≠ 0 ∨ j ≠ 29)) : mFr I (fd_up I1 k j v) := by
  refine ⟨(fd_up_cell hk.1.symm).trans h.1, (fd_up_cell hk.2.1.symm).trans h.2.1, (fd_up_cell hk.2.2.1.symm).trans h.2.2.1, ?_⟩
  rcases hk.2.2.2 with q | q
  · rw [fd_up_ne q.symm]; exact h.2.2.2
  · by_cases z : k = 0
    · subst z; rw [fd_up_pl q.symm]; exact h.2.2.2
    · rw [fd_up_ne (fun y => z y.symm)]; exact h.2.2.2
def mOut (o : oT) (I : fdI) (L : fdL) (v : Value) (I' : fdI) (L' : fdL) : Prop := v = .int o.1 ∧ L' = L ∧ mSt o.2.1 I' ∧ mFr I I' ∧ ∀ j, j < 3 → I' 1 j = bmp o.2.2 (I 1) j
theorem mO.none {s' : pS} {r : Int32} {I I1 : fdI} {L : fdL} (h : mSt s' I1) (f : mFr I I1) (hr : I1 1 = I 1) : mOut (r, s', 3) I L (.int r) I1 L :=
  ⟨rfl, rfl, h, f, fun j hj => by rw [hr]; exact (if_neg (show ¬ j = 3 by omega)).symm⟩
theorem mO.up {s' : pS} {r : Int32} {I J : fdI} {L : fdL} (q : Nat) (h : mSt s' J) (f : mFr I J) (hr : J 1 = I 1) : mOut (r, s', q) I L (.int r) (fd_up J 1 q (J 1 q + 1)) L := by
  refine ⟨rfl, rfl, h.refus, f.up (by omega), fun j hj => ?_⟩
  show fd_up J 1 q _ 1 j = _
  rw [fd_up_at]
  unfold bmp
  by_cases z : j = q
  · rw [if_pos z, if_pos z, hr, z]
  · rw [if_neg z, if_neg z, hr]
theorem mSm.fr {I J : fdI} (h : mSm I J) : mFr I J ∧ J 1 = I 1 := ⟨⟨h.1 20 (by decide) (by decide) (by decide) (by decide) (by decide) (by decide) (by decide) (by decide), h.1 23 (by decide) (by decide) (by decide) (by decide) (by decide) (by decide) (by decide) (by decide), h.1 24 (by decide) (by decide) (by decide) (by decide) (by decide) (by decide) (by decide) (by decide), h.2 29 (by decide)⟩, h.1 1 (by decide) (by decide) (by decide) (by decide) (by decide) (by decide) (by decide) (by decide)⟩
theorem mSt.mk' {s : pS} {I : fdI} (h : mSt s I) : mOk s.1 I s.2.1 s.2.2.1 s.2.2.2.1 s.2.2.2.2.1 ∧ (∀ k, k < s.2.1 → I 6 k = nI (prm s.2.1 s.2.2.2.2.2.1 k)) ∧ I 0 16 = nI s.2.2.2.2.2.2.1 ∧ I 0 17 = nI s.2.2.2.2.2.2.2 := by
  obtain ⟨V, n, nn, np, nt, rk, ot, ly⟩ := s
  exact ⟨h.1, h.2.2.1, h.2.2.2.1, h.2.2.2.2.2.1⟩
theorem mSt.kind {s : pS} {I : fdI} (h : mSt s I) {d : Nat} (hd : d < s.2.1) : I 2 d = s.1 1 d ∧ I 3 d = s.1 2 d ∧ I 4 d = s.1 3 d ∧ I 5 d = s.1 4 d ∧ I 12 d = s.1 5 d := h.mk'.1.2.2.2.2.2.2.2.2.1.1 d hd
section MO
variable {α : Nat → Nat} {I : fdI} {L : fdL} {s : pS}
theorem mO.ex {y : MethodName} {mi : fdM} {av : List Value} {c : Prop} [Decidable c] {a b : Int32} {I1 I2 : fdI} {o1 o2 : oT} (hc : Con fd_SM α y mi av I L (fd_is (some (.int (if c then a else b))) (if c then I1 else I2) L)) (h1 : c → mOut o1 I L (.int a) I1 L) (h2 : ¬ c → mOut o2 I L (.int b) I2 L) : Con fd_SM α y mi av I L (fd_ip (mOut (if c then o1 else o2) I L)) := by
  refine hc.weaken fun rv I' L' hq => ?_
  obtain ⟨rfl, rfl, rfl⟩ := hq
  by_cases q : c
  · rw [if_pos q, if_pos q, if_pos q]; exact ⟨_, rfl, h1 q⟩
  · rw [if_neg q, if_neg q, if_neg q]; exact ⟨_, rfl, h2 q⟩
theorem mO.qs {y : MethodName} {mi : fdM} {av : List Value} {c : Prop} [Decidable c] {r bad : Int32} (h : mSt s I) (hc : Con fd_SM α y mi av I L (fd_ip (qsP c r bad I L))) : Con fd_SM α y mi av I L (fd_ip (mOut (if c then (r, s, 3) else (bad, s, 0)) I L)) := by
  refine hc.weaken fun rv I' L' hq => ?_
  obtain ⟨v, rfl, rfl, q1, q2⟩ := hq
  refine ⟨v, rfl, ?_⟩
  by_cases q : c
  · rw [if_pos q]
    obtain ⟨rfl, hs⟩ := q1 q
    exact mO.none (h.sm hs) hs.fr.1 hs.fr.2
  · rw [if_neg q]
    obtain ⟨rfl, rfl⟩ := q2 q
    exact mO.up 0 h mFr.rfl' rfl
theorem mO.qn {y : MethodName} {mi : fdM} {av : List Value} {c : Prop} [Decidable c] {r : Int32} (h : mSt s I) (hc : Con fd_SM α y mi av I L (fd_ip (qnP c r I L))) : Con fd_SM α y mi av I L (fd_ip (mOut (if c then (r, s, 3) else (-3, s, 1)) I L)) := by
  refine hc.weaken fun rv I' L' hq => ?_
  obtain ⟨v, rfl, rfl, q1, q2⟩ := hq
  refine ⟨v, rfl, ?_⟩
  by_cases q : c
  · rw [if_pos q]
    obtain ⟨rfl, hs⟩ := q1 q
    exact mO.none (h.sm hs) hs.fr.1 hs.fr.2
  · rw [if_neg q]
    obtain ⟨rfl, J, hs, rfl⟩ := q2 q
    exact mO.up 1 (h.sm hs) hs.fr.1 hs.fr.2
theorem dayP_c {d : Int32} {n : Nat} (hn : n < 2 ^ 31) (h : dayP d n) : d.toNatClampNeg < n := by
  obtain ⟨j, hj, rfl⟩ := dayP_nI h
  rw [nI_clamp (by omega)]
  exact hj
theorem m_life (h : mSt s I) (n : Int32) : Con fd_SM α yX11_life mX11_life [.ref (α 0), .int n] I L (fd_ip (mOut (o_life s n) I L)) := by
  refine (c_X11_life α I L n).weaken fun rv I' L' hq => ?_
  obtain ⟨v, rfl, rfl, q1, q2⟩ := hq
  refine ⟨v, rfl, ?_⟩
  unfold o_life
  by_cases q : lifeP n
  · rw [if_pos q]
    obtain ⟨rfl, hb⟩ := q1 q
    obtain ⟨e, l1, l7⟩ := lifeP_nI q
    rw [e] at hb
    have hm := mSt.bgI ⟨l1, l7⟩ hb
    rw [h.mk'.1.1]
    exact mO.none hm ⟨hb.1 20 (by decide) (by decide) (by decide) (by decide) (by decide) (by decide) (by decide), hb.1 23 (by decide) (by decide) (by decide) (by decide) (by decide) (by decide) (by decide), hb.1 24 (by decide) (by decide) (by decide) (by decide) (by decide) (by decide) (by decide), hb.2.1 29 (by decide) (by decide) (by decide) (by decide) (by decide) (by decide)⟩ (hb.1 1 (by decide) (by decide) (by decide) (by decide) (by decide) (by decide) (by decide))
  · rw [if_neg q]
    obtain ⟨rfl, rfl⟩ := q2 q
    exact mO.up 0 h mFr.rfl' rfl
theorem m_day (h : mSt s I) (d k : Int32) : Con fd_SM α yX11_day mX11_day [.ref (α 0), .int d, .int k] I L (fd_ip (mOut (o_day s d k) I L)) := by
  have hn7 := h.ok.n7
  refine mO.ex (c_X11_day α I L d k h.mk'.1.1 hn7) (fun q => ?_) (fun q => mO.up 0 h mFr.rfl' rfl)
  have hd := dayP_c (by omega) q.1
  rw [(h.kind hd).1]
  exact mO.none (h.day hd q.2) ((mFr.rfl'.up (by omega)).up (by omega)) rfl
theorem m_at (h : mSt s I) (d k : Int32) : Con fd_SM α yX11_at mX11_at [.ref (α 0), .int d, .int k] I L (fd_ip (mOut (o_at s d k) I L)) := by
  have hn7 := h.ok.n7
  refine mO.ex (c_X11_at α I L d k h.mk'.1.1 hn7) (fun q => ?_) (fun q => mO.up 0 h mFr.rfl' rfl)
  have hd := dayP_c (by omega) q.1
  rw [(h.kind hd).2.2.2.1]
  exact mO.none (h.at hd q.2) (mFr.rfl'.up (by omega)) rfl
theorem m_diary (h : mSt s I) (d k : Int32) : Con fd_SM α yX11_diary mX11_diary [.ref (α 0), .int d, .int k] I L (fd_ip (mOut (o_diary s d k) I L)) := by
  have hn7 := h.ok.n7
  refine mO.ex (c_X11_diary α I L d k h.mk'.1.1 hn7) (fun q => ?_) (fun q => mO.up 0 h mFr.rfl' rfl)
  have hd := dayP_c (by omega) q.1
  rw [(h.kind hd).2.2.2.2]
  refine mO.none (h.diary hd ?_) (mFr.rfl'.up (by omega)) rfl
  have q2 := q.2
  by_cases z : k.toInt = -1
  · exact Or.inl (Int32.toInt_inj.mp z)
  · exact Or.inr ⟨by have := q2.1; omega, q2.2⟩
theorem m_order (h : mSt s I) (r : Int32) : Con fd_SM α yX11_order mX11_order [.ref (α 0), .int r] I L (fd_ip (mOut (o_order s r) I L)) := by
  have hn7 := h.ok.n7
  have hf := fac_le hn7.2
  refine (c_X11_order α I L r h.mk'.1.1 hn7 h.mk'.2.1 h.ok.num.2.2.2.1).weaken fun rv I' L' hq => ?_
  obtain ⟨v, rfl, rfl, q1, q2⟩ := hq
  refine ⟨v, rfl, ?_⟩
  unfold o_order
  by_cases q : dayP r (fac s.2.1)
  · rw [if_pos q]
    obtain ⟨rfl, ho⟩ := q1 q
    have hr := dayP_c (by omega) q
    have e : r = nI r.toNatClampNeg := by
      obtain ⟨j, hj, rfl⟩ := dayP_nI q
      rw [nI_clamp (by omega)]
    have hm := h.order hr (by rw [← e]; exact ho)
    exact mO.none hm ⟨ho.1 20 (by decide) (by decide), ho.1 23 (by decide) (by decide), ho.1 24 (by decide) (by decide), ho.2.1 29 (by decide)⟩ (ho.1 1 (by decide) (by decide))
  · rw [if_neg q]
    obtain ⟨rfl, rfl⟩ := q2 q
    exact mO.up 0 h mFr.rfl' rfl
theorem m_other (h : mSt s I) (r : Int32) : Con fd_SM α yX11_other mX11_other [.ref (α 0), .int r] I L (fd_ip (mOut (o_other s r) I L)) := by
  have hn7 := h.ok.n7
  have hf := fac_le hn7.2
  refine mO.ex (c_X11_other α I L r h.mk'.1.1 hn7) (fun q => ?_) (fun q => mO.up 0 h mFr.rfl' rfl)
  have hr := dayP_c (by omega) q
  have e : r = nI r.toNatClampNeg := by
    obtain ⟨j, hj, rfl⟩ := dayP_nI q
    rw [nI_clamp (by omega)]
  rw [h.mk'.2.2.1]
  have hm := h.other hr
  rw [← e] at hm
  exact mO.none hm (mFr.rfl'.up (by omega)) rfl
theorem m_told (h : mSt s I) (r : Int32) : Con fd_SM α yX11_told mX11_told [.ref (α 0), .int r] I L (fd_ip (mOut (o_told s r) I L)) := by
  have hn7 := h.ok.n7
  have hnum := h.ok.num
  refine (c_X11_told α I L r h.mk'.1.1 hn7 h.mk'.1.2.2.2.2.2.2.1 hnum.2.2.1).weaken fun rv I' L' hq => ?_
  obtain ⟨rfl, rfl, rfl⟩ := hq
  refine ⟨_, rfl, ?_⟩
  unfold toR toI o_told
  by_cases q : dayP r (fac s.2.1)
  · rw [if_pos q, if_pos q, if_pos q]
    by_cases q3 : s.2.2.2.2.1 = 3
    · rw [if_pos q3, if_pos q3, if_pos q3]
      exact mO.up 2 h mFr.rfl' rfl
    · rw [if_neg q3, if_neg q3, if_neg q3]
      exact mO.none (h.told q (by omega)) ((mFr.rfl'.up (by omega)).up (by omega)) rfl
  · rw [if_neg q, if_neg q, if_neg q]
    exact mO.up 0 h mFr.rfl' rfl
theorem m_ahead (h : mSt s I) (a b : Int32) : Con fd_SM α yX11_ahead mX11_ahead [.ref (α 0), .int a, .int b] I L (fd_ip (mOut (o_ahead s a b) I L)) := by
  have hn7 := h.ok.n7
  have hnum := h.ok.num
  refine (c_X11_ahead α I L a b h.mk'.1.1 hn7 h.mk'.1.2.2.2.2.1 hnum.2.1).weaken fun rv I' L' hq => ?_
  obtain ⟨rfl, rfl, rfl⟩ := hq
  refine ⟨_, rfl, ?_⟩
  unfold ahR ahI o_ahead
  by_cases q : dayP a s.2.1 ∧ dayP b s.2.1 ∧ ¬ a = b
  · rw [if_pos q, if_pos q, if_pos q]
    by_cases q3 : s.2.2.2.1 = 6
    · rw [if_pos q3, if_pos q3, if_pos q3]
      exact mO.up 2 h mFr.rfl' rfl
    · rw [if_neg q3, if_neg q3, if_neg q3]
      exact mO.none (h.ahead q.1 q.2.1 (by omega)) (((mFr.rfl'.up (by omega)).up (by omega)).up (by omega)) rfl
  · rw [if_neg q, if_neg q, if_neg q]
    exact mO.up 0 h mFr.rfl' rfl
theorem m_note (h : mSt s I) (d f : Int32) : Con fd_SM α yX11_note mX11_note [.ref (α 0), .int d, .int f] I L (fd_ip (mOut (o_note s d f) I L)) := by
  have hn7 := h.ok.n7
  have hnum := h.ok.num
  have eB : orB (isNB I d f) s.2.2.1 = isNP s d f := by
    unfold isNP
    refine orB_congr fun i hi => ?_
    obtain ⟨a1, a2⟩ := h.mk'.1.2.2.2.2.2.2.2.2.1.2.1 i hi
    have a1 : I 7 i = s.1 6 i := a1
    have a2 : I 8 i = s.1 7 i := a2
    unfold isNB
    rw [a1, a2]
  refine (c_X11_note α I L d f h.mk'.1.1 hn7 h.mk'.1.2.2.1 hnum.1).weaken fun rv I' L' hq => ?_
  obtain ⟨rfl, rfl, rfl⟩ := hq
  refine ⟨_, rfl, ?_⟩
  unfold ntR ntI o_note
  rw [eB]
  by_cases q : dayP d s.2.1 ∧ dayP f 6
  · rw [if_pos q, if_pos q, if_pos q]
    by_cases q2 : isNP s d f = true
    · rw [if_pos q2, if_pos q2, if_pos q2]
      exact mO.up 1 h mFr.rfl' rfl
    · rw [if_neg q2, if_neg q2, if_neg q2]
      by_cases q3 : s.2.2.1 = 6
      · rw [if_pos q3, if_pos q3, if_pos q3]
        exact mO.up 2 h mFr.rfl' rfl
      · rw [if_neg q3, if_neg q3, if_neg q3]
        exact mO.none (h.note q.1 q.2 (by omega)) ((((mFr.rfl'.up (by omega)).up (by omega)).up (by omega)).up (by omega)) rfl
  · rw [if_neg q, if_neg q, if_neg q]
    exact mO.up 0 h mFr.rfl' rfl
theorem m_fact (h : mSt s I) (d w f b : Int32) : Con fd_SM α yX11_fact mX11_fact [.ref (α 0), .int d, .int w, .int f, .int b] I L (fd_ip (mOut (o_fact s d w f b) I L)) := by
  have hn7 := h.ok.n7
  refine (c_X11_fact α I L d w f b h.mk'.1.1 hn7).weaken fun rv I' L' hq => ?_
  obtain ⟨rfl, rfl, rfl⟩ := hq
  refine ⟨_, rfl, ?_⟩
  unfold faR faI o_fact
  by_cases q : dayP d s.2.1 ∧ dayP w 2 ∧ dayP f 6
  · rw [if_pos q, if_pos q, if_pos q]
    have hd := dayP_c (by omega) q.1
    have eH : faH I d w = I (3 + w.toNatClampNeg) d.toNatClampNeg ∧ (if w = 0 then 3 else 4) = 3 + w.toNatClampNeg ∧ I (3 + w.toNatClampNeg) d.toNatClampNeg = s.1 (2 + w.toNatClampNeg) d.toNatClampNeg ∧ w.toNatClampNeg < 2 := by
      obtain ⟨j, hj, rfl⟩ := dayP_nI q.2.1
      rw [nI_clamp (by omega)]
      obtain ⟨g1, g2, g3, g4, g5⟩ := h.kind hd
      unfold faH
      rcases (show j = 0 ∨ j = 1 by omega) with rfl | rfl
      · exact ⟨if_pos rfl, if_pos rfl, g2, by decide⟩
      · exact ⟨if_neg (by decide), if_neg (by decide), g3, by decide⟩
    obtain ⟨e1, e2, e3, e4⟩ := eH
    have ey : fd_b ((faH I d w >>> (f &&& 31)) &&& 1 = 1) = fd_b (fcB s d.toNatClampNeg w.toNatClampNeg f = true) := by
      rw [e1, e3]
      exact fd_bc ⟨fun z => decide_eq_true z, fun z => of_decide_eq_true z⟩
    rw [ey]
    by_cases q2 : fd_b (fcB s d.toNatClampNeg w.toNatClampNeg f = true) = b
    · rw [if_pos q2, if_pos q2, if_pos q2]
      exact mO.up 1 h mFr.rfl' rfl
    · rw [if_neg q2, if_neg q2, if_neg q2, e2, e1]
      exact mO.none (h.fact hd e4 q.2.2) ((mFr.rfl'.up (by omega)).up (by omega)) (by rw [fd_up_cell (by decide), fd_up_cell (by omega)])
  · rw [if_neg q, if_neg q, if_neg q]
    exact mO.up 0 h mFr.rfl' rfl
theorem m_tear (h : mSt s I) (w : Int32) : Con fd_SM α yX11_tear mX11_tear [.ref (α 0), .int w] I L (fd_ip (mOut (o_tear s w) I L)) := by
  have hn7 := h.ok.n7
  have hm := h.mk'.1
  have eD : diN I s.2.1 = dyN s.1 s.2.1 := by
    unfold diN dyN
    exact cnN_congr fun i hi => by rw [(h.kind hi).2.2.2.2]
  refine (c_X11_tear α I L w hm.1 hn7 hm.2.2.1 hm.2.2.2.2.1 hm.2.2.2.2.2.2.1).weaken fun rv I' L' hq => ?_
  obtain ⟨v, rfl, rfl, ht, rfl⟩ := hq
  refine ⟨_, rfl, ?_⟩
  unfold teR o_tear
  rw [eD]
  by_cases q : dayP w 4
  · rw [if_pos q, if_pos q]
    have hS := h.tear q ht
    have ht2 := ht
    unfold teP at ht2
    rw [if_pos q] at ht2
    have hfr : (∀ a, a ≠ 0 → a ≠ 12 → I' a = I a) ∧ I' 0 29 = I 0 29 := by
      revert ht2
      repeat' split
      · rintro rfl; exact ⟨fun a a0 _ => by rw [fd_up_cell a0, fd_up_cell a0], rfl⟩
      · rintro rfl; exact ⟨fun a a0 _ => fd_up_cell a0, rfl⟩
      · intro z; exact ⟨fun a _ a1 => z.1 a a1, by rw [z.1 0 (by decide)]⟩
      · rintro rfl; exact ⟨fun a a0 _ => fd_up_cell a0, rfl⟩
    exact mO.none hS ⟨hfr.1 20 (by decide) (by decide), hfr.1 23 (by decide) (by decide), hfr.1 24 (by decide) (by decide), hfr.2⟩ (hfr.1 1 (by decide) (by decide))
  · rw [if_neg q, if_neg q]
    unfold teP at ht
    rw [if_neg q] at ht
    subst ht
    exact mO.up 0 h mFr.rfl' rfl
theorem m_lived (h : mSt s I) (d : Int32) : Con fd_SM α yX11_lived mX11_lived [.ref (α 0), .int d] I L (fd_ip (mOut (o_lived s d) I L)) := by
  have hn7 := h.ok.n7
  refine mO.ex (c_X11_lived α I L d h.mk'.1.1 hn7) (fun q => ?_) (fun q => mO.up 0 h mFr.rfl' rfl)
  rw [h.mk'.2.1 _ (dayP_c (by omega) q)]
  exact mO.none h mFr.rfl' rfl
theorem m_P (h : mSt s I) : isP (prm s.2.1 s.2.2.2.2.2.1) s.2.1 := prm_P h.ok.n7 h.ok.num.2.2.2.1
theorem m_knows (h : mSt s I) (d : Int32) : Con fd_SM α yX11_knows mX11_knows [.ref (α 0), .int d] I L (fd_ip (mOut (o_knows s d) I L)) := mO.qs h (c_X11_knows s.1 α I L d h.mk'.1 h.mk'.2.1 (m_P h))
theorem m_reads (h : mSt s I) (d : Int32) : Con fd_SM α yX11_reads mX11_reads [.ref (α 0), .int d] I L (fd_ip (mOut (o_reads s d) I L)) := mO.qs h (c_X11_reads s.1 α I L d h.mk'.1 h.mk'.2.1 (m_P h))
theorem m_missing (h : mSt s I) (d : Int32) : Con fd_SM α yX11_missing mX11_missing [.ref (α 0), .int d] I L (fd_ip (mOut (o_missing s d) I L)) := mO.qs h (c_X11_missing s.1 α I L d h.mk'.1 h.mk'.2.1 (m_P h))
theorem m_first (h : mSt s I) (w : Int32) : Con fd_SM α yX11_first mX11_first [.ref (α 0), .int w] I L (fd_ip (mOut (o_first s w) I L)) := mO.qs h (c_X11_first s.1 α I L w h.mk'.1 h.mk'.2.1 (m_P h))
theorem m_cards (h : mSt s I) (d : Int32) : Con fd_SM α yX11_cards mX11_cards [.ref (α 0), .int d] I L (fd_ip (mOut (o_cards s d) I L)) := mO.qs h (c_X11_cards s.1 α I L d h.mk'.1 h.mk'.2.1 (m_P h))
theorem m_hang (h : mSt s I) (i : Int32) : Con fd_SM α yX11_hang mX11_hang [.ref (α 0), .int i] I L (fd_ip (mOut (o_hang s i) I L)) := mO.qs h (c_X11_hang s.1 α I L i h.mk'.1)
theorem m_when (h : mSt s I) (d set : Int32) : Con fd_SM α yX11_when mX11_when [.ref (α 0), .int d, .int set] I L (fd_ip (mOut (o_when s d set) I L)) := mO.qs h (c_X11_when s.1 α I L d set h.mk'.1)
theorem m_torn (h : mSt s I) (w : Int32) : Con fd_SM α yX11_torn mX11_torn [.ref (α 0), .int w] I L (fd_ip (mOut (o_torn s w) I L)) := mO.qs h (c_X11_torn s.1 α I L w h.mk'.1)
theorem m_best (h : mSt s I) : Con fd_SM α yX11_best mX11_best [.ref (α 0)] I L (fd_ip (mOut (o_best s) I L)) := mO.qn h (c_X11_best s.1 α I L h.mk'.1)
theorem m_two (h : mSt s I) (d : Int32) : Con fd_SM α yX11_two mX11_two [.ref (α 0), .int d] I L (fd_ip (mOut (o_two s d) I L)) := mO.qs h (c_X11_two s.1 α I L d h.mk'.1 h.mk'.2.1 (m_P h) h.mk'.2.2.1 h.ok.num.2.2.2.2.1)
theorem m_settle (h : mSt s I) (f w : Int32) : Con fd_SM α yX11_settle mX11_settle [.ref (α 0), .int f, .int w] I L (fd_ip (mOut (o_settle s f w) I L)) := mO.qs h (c_X11_settle s.1 α I L f w h.mk'.1 h.mk'.2.1 (m_P h) h.mk'.2.2.1 h.ok.num.2.2.2.2.1)
theorem m_sofar (h : mSt s I) (w : Int32) : Con fd_SM α yX11_sofar mX11_sofar [.ref (α 0), .int w] I L (fd_ip (mOut (o_sofar s w) I L)) := mO.qs h (c_X11_sofar s.1 α I L w h.mk'.1 h.mk'.2.1 (m_P h) h.mk'.2.2.2 h.ok.num.2.2.2.2.2)
theorem m_game (h : mSt s I) (w : Int32) : Con fd_SM α yX11_game mX11_game [.ref (α 0), .int w] I L (fd_ip (mOut (o_game s w) I L)) := mO.qs h (c_X11_game s.1 α I L w h.mk'.1)
theorem m_must (h : mSt s I) (d : Int32) : Con fd_SM α yX11_must mX11_must [.ref (α 0), .int d] I L (fd_ip (mOut (o_must s d) I L)) := by
  refine (c_X11_must s.1 α I L d h.mk'.1).weaken fun rv I' L' hq => ?_
  obtain ⟨v, rfl, rfl, q1, q2⟩ := hq
  refine ⟨v, rfl, ?_⟩
  unfold o_must
  by_cases q : dayP d s.2.1
  · rw [if_pos q]
    obtain ⟨q3, q4⟩ := q2 q
    by_cases z : orB (hgV s.1 s.2.1 s.2.2.1 s.2.2.2.1) (fac s.2.1) = true
    · rw [if_pos z]
      obtain ⟨rfl, hs⟩ := q3 z
      exact mO.none (h.sm hs) hs.fr.1 hs.fr.2
    · rw [if_neg z]
      obtain ⟨rfl, J, hs, rfl⟩ := q4 (Bool.eq_false_iff.mpr z)
      exact mO.up 1 (h.sm hs) hs.fr.1 hs.fr.2
  · rw [if_neg q]
    obtain ⟨rfl, rfl⟩ := q1 q
    exact mO.up 0 h mFr.rfl' rfl
theorem m_live (h : mSt s I) : Con fd_SM α yX11_live mX11_live [.ref (α 0)] I L (fd_ip (mOut (o_live s) I L)) := by
  have hly := h.ok.num.2.2.2.2.2
  refine (c_X11_live s.1 α I L h.mk'.1 h.mk'.2.1 (m_P h) h.mk'.2.2.2 hly).weaken fun rv I' L' hq => ?_
  obtain ⟨v, rfl, rfl, q1, rfl⟩ := hq
  refine ⟨_, rfl, ?_⟩
  unfold liR o_live
  unfold liP at q1
  by_cases q : s.2.2.2.2.2.2.2 = s.2.1
  · rw [if_pos q] at q1
    rw [if_pos q, if_pos q]
    subst q1
    exact mO.up 1 h mFr.rfl' rfl
  · rw [if_neg q] at q1
    rw [if_neg q, if_neg q]
    obtain ⟨J, hs, rfl⟩ := q1
    exact mO.none ((h.sm hs).live (by omega)) (hs.fr.1.up (by omega)) ((fd_up_cell (by decide)).trans hs.fr.2)
theorem m_undo (h : mSt s I) : Con fd_SM α yX11_undo mX11_undo [.ref (α 0)] I L (fd_ip (mOut (o_undo s) I L)) := by
  have hly := h.ok.num.2.2.2.2.2
  have hn7 := h.ok.n7
  refine mO.ex (c_X11_undo α I L h.mk'.2.2.2 (by omega)) (fun q => mO.up 1 h mFr.rfl' rfl) (fun q => ?_)
  exact mO.none (h.live (by omega)) (mFr.rfl'.up (by omega)) rfl
theorem m_notes (h : mSt s I) (w : Int32) : Con fd_SM α yX11_notes mX11_notes [.ref (α 0), .int w] I L (fd_ip (mOut (o_notes s w) I L)) := by
  refine (c_X11_notes s.1 α I L w h.mk'.1 h.mk'.2.1 (m_P h)).weaken fun rv I' L' hq => ?_
  obtain ⟨v, rfl, rfl, q1, q2⟩ := hq
  refine ⟨v, rfl, ?_⟩
  unfold o_notes
  by_cases q : dayP w 3
  · rw [if_pos q]
    obtain ⟨rfl, hs⟩ := q1 q
    have fr : ∀ a, a = 1 ∨ a = 20 ∨ a = 23 ∨ a = 24 → I' a = I a := fun a ha => hs.1 a (by omega) (by omega) (by omega) (by omega) (by omega) (by omega) (by omega) (by omega) (by omega) (by omega)
    exact mO.none (h.sN hs) ⟨fr 20 (by decide), fr 23 (by decide), fr 24 (by decide), hs.2.1 29 (by decide)⟩ (fr 1 (by decide))
  · rw [if_neg q]
    obtain ⟨rfl, rfl⟩ := q2 q
    exact mO.up 0 h mFr.rfl' rfl
theorem m_count (h : mSt s I) (b : Nat) (hb : I 0 29 = nI b) (w : Int32) : Con fd_SM α yX11_count mX11_count [.ref (α 0), .int w] I L (fd_ip (mOut (o_count s b w) I L)) := by
  refine mO.ex (I2 := mBad I) (o2 := (-2, s, 0)) (o1 := (ctV s.1 s.2.1 s.2.2.1 s.2.2.2.1 s.2.2.2.2.1 s.2.2.2.2.2.1 (nI b) w.toNatClampNeg, s, 3)) (c_X11_count s.1 α I L w h.mk'.1 h.mk'.2.1 h.ok.num.2.2.2.1) (fun q => ?_) (fun q => mO.up 0 h mFr.rfl' rfl)
  rw [hb]
  exact mO.none h mFr.rfl' rfl
def mOuF (o : oT) (F : Option (Nat × Nat)) (I : fdI) (L : fdL) (v : Value) (I' : fdI) (L' : fdL) : Prop := mOut o I L v I' L ∧ L' = (match F with
  | none => L
  | some (a, b) => raL L a b)
theorem m_mean (h : mSt s I) : Con fd_SM α yX11_mean mX11_mean [.ref (α 0)] I L (fd_ip (mOuF (o_mean s) (f_mean s) I L)) := by
  refine (c_X11_mean s.1 α I L h.mk'.1).weaken fun rv I' L' hq => ?_
  obtain ⟨v, rfl, q1, q2⟩ := hq
  refine ⟨v, rfl, ?_⟩
  unfold o_mean f_mean
  by_cases q : cnN (tlV s.1 s.2.1 s.2.2.2.1) (fac s.2.1) = 0
  · rw [if_pos q, if_pos q]
    obtain ⟨rfl, ⟨J, hs, rfl⟩, rfl⟩ := q2 q
    exact ⟨mO.up 1 (h.sm hs) hs.fr.1 hs.fr.2, rfl⟩
  · rw [if_neg q, if_neg q]
    obtain ⟨rfl, hs, rfl⟩ := q1 q
    exact ⟨mO.none (h.sm hs) hs.fr.1 hs.fr.2, rfl⟩
theorem m_promise (h : mSt s I) (f a b : Int32) : Con fd_SM α yX11_promise mX11_promise [.ref (α 0), .int f, .int a, .int b] I L (fd_ip (mOuF (o_promise s f a b) (f_promise s f a b) I L)) := by
  refine (c_X11_promise s.1 α I L f a b h.mk'.1).weaken fun rv I' L' hq => ?_
  obtain ⟨v, rfl, q1, q2⟩ := hq
  refine ⟨v, rfl, ?_⟩
  unfold o_promise f_promise
  by_cases q : dayP f 6 ∧ dayP a s.2.1 ∧ dayP b s.2.1 ∧ ¬ a = b
  · rw [if_pos q, if_pos q]
    obtain ⟨rfl, hs, rfl⟩ := q1 q
    exact ⟨mO.none (h.sm hs) hs.fr.1 hs.fr.2, rfl⟩
  · rw [if_neg q, if_neg q]
    obtain ⟨rfl, rfl, rfl⟩ := q2 q
    exact ⟨mO.up 0 h mFr.rfl' rfl, rfl⟩
end MO
