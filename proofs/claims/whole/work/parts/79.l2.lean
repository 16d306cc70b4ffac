/-! the law: the calls that are not outcomes -/
section LWT
variable {s : pS} {b : Nat} {I J I' J' : fdI} {L M L' M' : fdL} {v w : Value}
theorem lw_type (h : lwR s b I L J M) (c : Int32) : lwE (.int (if dayP c 128 then (if b = 150 then -4 else nI (b + 1)) else -2)) (.int (if dayP c 128 then (if b = 150 then -4 else nI (b + 1)) else -2)) (if dayP c 128 then (if b = 150 then xFull I else fd_up (fd_up I 56 b c) 54 0 (nI (b + 1))) else xBad I) L (if dayP c 128 then (if b = 150 then mFull J else fd_up (fd_up J 20 b c) 0 29 (nI (b + 1))) else mBad J) M := by
  refine ⟨rfl, ?_⟩
  by_cases q : dayP c 128
  · rw [if_pos q, if_pos q]
    by_cases q2 : b = 150
    · rw [if_pos q2, if_pos q2]
      exact ⟨_, _, h.bump 2 (by decide)⟩
    · rw [if_neg q2, if_neg q2]
      obtain ⟨⟨g1, g2, g3, g4⟩, ⟨b1, b2, b3, b4⟩, r, l, G⟩ := h
      refine ⟨s, b + 1, ⟨g1, g2, g3.same (fun a a1 a2 => by rw [fd_up_cell (by omega), fd_up_cell (by omega)]), g4.same (fun j hj => by rw [fd_up_pl (by omega), fd_up_ne (by decide)]) (fun a a1 a2 => by rw [fd_up_cell (by omega), fd_up_cell (by omega)])⟩, ⟨by omega, fd_up_same, fd_up_same, fun i hi => ?_⟩, fun j hj => ?_, l, G.fr (fun a a1 a2 => by rw [fd_up_cell (by omega), fd_up_cell (by omega)]) (fun x _ => rfl) (fun x _ => rfl)⟩
      · rw [fd_up_ne (by decide), fd_up_at, fd_up_ne (show (20 : Nat) ≠ 0 by decide), fd_up_at]
        by_cases z : i = b
        · rw [if_pos z, if_pos z]
        · rw [if_neg z, if_neg z]; exact b4 i (by omega)
      · rw [fd_up_ne (by decide), fd_up_ne (by decide), fd_up_ne (by decide), fd_up_ne (by decide)]; exact r j hj
  · rw [if_neg q, if_neg q]
    exact ⟨_, _, h.bump 0 (by decide)⟩
theorem lw_clear (h : lwR s b I L J M) : lwE (.int (I 54 0)) (.int (J 0 29)) (fd_up I 54 0 0) L (fd_up J 0 29 0) M := by
  obtain ⟨⟨g1, g2, g3, g4⟩, ⟨b1, b2, b3, b4⟩, r, l, G⟩ := h
  refine ⟨by rw [b2, b3], s, 0, ⟨g1, g2, g3.same (fun a a1 a2 => by rw [fd_up_cell (by omega)]), g4.same (fun j hj => by rw [fd_up_pl (by omega)]) (fun a a1 a2 => by rw [fd_up_cell (by omega)])⟩, ⟨by decide, fd_up_same, fd_up_same, fun i hi => absurd hi (Nat.not_lt_zero i)⟩, fun j hj => ?_, l, G.fr (fun a a1 a2 => by rw [fd_up_cell (by omega)]) (fun x _ => rfl) (fun x _ => rfl)⟩
  rw [fd_up_ne (by decide), fd_up_ne (by decide)]; exact r j hj
theorem lw_status (h : lwR s b I L J M) (k : Int32) : lwE (.int (if dayP k 3 then I 76 k.toNatClampNeg else -1)) (.int (if dayP k 3 then J 1 k.toNatClampNeg else -1)) (if dayP k 3 then I else xBad I) L (if dayP k 3 then J else mBad J) M := by
  by_cases q : dayP k 3
  · rw [if_pos q, if_pos q, if_pos q, if_pos q]
    exact ⟨by rw [h.2.2.1 _ (dayP_c (by decide) q)], _, _, h⟩
  · rw [if_neg q, if_neg q, if_neg q, if_neg q]
    exact ⟨rfl, _, _, h.bump 0 (by decide)⟩
theorem lw_part (h : lwR s b I L J M) (k : Int32) : lwE (.long (if dayP k 2 then (if k = 0 then L 0 11 else L 0 12) else -2)) (.long (if k = 0 then M 0 24 else if k = 1 then M 0 25 else -2)) (if dayP k 2 then I else xBad I) L (if k = 0 ∨ k = 1 then J else mBad J) M := by
  by_cases q : dayP k 2
  · have hk : k = 0 ∨ k = 1 := by
      obtain ⟨j, hj, rfl⟩ := dayP_nI q
      rcases (show j = 0 ∨ j = 1 by omega) with rfl | rfl
      · exact Or.inl rfl
      · exact Or.inr rfl
    rw [if_pos q, if_pos q, if_pos hk]
    refine ⟨?_, _, _, h⟩
    rcases hk with rfl | rfl
    · rw [if_pos rfl, if_pos rfl, h.2.2.2.1.1]
    · rw [if_neg (by decide), if_neg (by decide), if_pos rfl, h.2.2.2.1.2]
  · have hk : ¬ (k = 0 ∨ k = 1) := by
      rintro (rfl | rfl)
      · exact q ⟨by decide, by decide⟩
      · exact q ⟨by decide, by decide⟩
    rw [if_neg q, if_neg q, if_neg hk, if_neg (fun z => hk (Or.inl z)), if_neg (fun z => hk (Or.inr z))]
    exact ⟨rfl, _, _, h.bump 0 (by decide)⟩
theorem lw_image (h : lwR s b I L J M) (i : Int32) (hx : L' = L ∧ (dayP i 2 → v = .int 1 ∧ ∃ K, cpR (30 + 11 * i.toNatClampNeg) 8 11 I K ∧ I' = fd_up K 53 i.toNatClampNeg 1) ∧ (¬ dayP i 2 → v = .int (-2) ∧ I' = xBad I)) : lwE v (.int (if dayP i 2 then 1 else -2)) I' L' (if dayP i 2 then kpI J i.toNatClampNeg else mBad J) M := by
  obtain ⟨rfl, x1, x2⟩ := hx
  by_cases q : dayP i 2
  · rw [if_pos q, if_pos q]
    obtain ⟨rfl, K, e, rfl⟩ := x1 q
    have hi : i.toNatClampNeg < 2 := dayP_c (by decide) q
    generalize i.toNatClampNeg = k at e hi ⊢
    obtain ⟨⟨g1, g2, g3, g4⟩, ⟨b1, b2, b3, b4⟩, r, l, G⟩ := h
    have eK : ∀ a, a < 30 + 11 * k ∨ 40 + 11 * k < a → a ≠ 53 → fd_up K 53 k 1 a = I a := fun a ha a2 => by rw [fd_up_cell a2]; exact e.1 a (by omega)
    refine ⟨rfl, s, b, ⟨g1, g2, g3.same (fun a a1 a2 => eK a (by omega) (by omega)), g4.same (fun j hj => by rw [kp_n _ _ _ (by decide) (by decide)]) (fun a a1 a2 => kp_n _ _ _ (by omega) (by omega))⟩, ⟨b1, by rw [eK 54 (by omega) (by decide)]; exact b2, by rw [kp_n _ _ _ (by decide) (by decide)]; exact b3, fun i hi => by rw [eK 56 (by omega) (by decide), kp_n _ _ _ (by decide) (by decide)]; exact b4 i hi⟩, fun j hj => by rw [eK 76 (by omega) (by decide), kp_n _ _ _ (by decide) (by decide)]; exact r j hj, l, ?_⟩
    intro i' hi'
    by_cases z : i' = k
    · subst z
      refine Or.inr ⟨by rw [fd_up_same]; decide, ?_, s, g1, g2, (xSt.copy g1 g3 e).same (fun a a1 a2 => fd_up_cell (by omega)), g4.lf (kp_lf J i')⟩
      rw [kp_s0]
      have h0 := g4.mk'.1.1
      have h1 := g4.mk'.1.2.1
      rw [h0]
      exact nI_ne0 (by omega) (by omega)
    · rcases G i' hi' with ⟨h1, h2⟩ | ⟨h1, h2, s2, h3, h4, h5, h6⟩
      · exact Or.inl ⟨by rw [fd_up_pl z, e.1 53 (by omega)]; exact h1, by rw [kp_o _ _ _ (by omega)]; exact h2⟩
      · exact Or.inr ⟨by rw [fd_up_pl z, e.1 53 (by omega)]; exact h1, by rw [kp_o _ _ _ (by omega)]; exact h2, s2, h3, h4, h5.same (fun a a1 a2 => eK a (by omega) (by omega)), h6.lf (go_lf J (kpI J k) i' (fun x hx => kp_o _ _ _ (by omega)) (fun x hx => kp_p _ _ _ (by omega)))⟩
  · rw [if_neg q, if_neg q]
    obtain ⟨rfl, rfl⟩ := x2 q
    exact ⟨rfl, _, _, h.bump 0 (by decide)⟩
theorem lw_from (h : lwR s b I L J M) (i : Int32) (hx : L' = L ∧ (dayP i 2 → (I 53 i.toNatClampNeg = 0 → v = .int (-3) ∧ I' = xNo I) ∧ (¬ I 53 i.toNatClampNeg = 0 → v = .int 1 ∧ cpR 8 (30 + 11 * i.toNatClampNeg) 11 I I')) ∧ (¬ dayP i 2 → v = .int (-2) ∧ I' = xBad I)) : lwE v (.int (if dayP i 2 then (if J 23 (72 * i.toNatClampNeg) = 0 then -3 else 1) else -2)) I' L' (if dayP i 2 then (if J 23 (72 * i.toNatClampNeg) = 0 then mNo J else goI J i.toNatClampNeg) else mBad J) M := by
  obtain ⟨rfl, x1, x2⟩ := hx
  by_cases q : dayP i 2
  · rw [if_pos q, if_pos q]
    have hi : i.toNatClampNeg < 2 := dayP_c (by decide) q
    obtain ⟨y1, y2⟩ := x1 q
    rcases h.2.2.2.2 _ hi with ⟨h1, h2⟩ | ⟨h1, h2, s2, h3, h4, h5, h6⟩
    · rw [if_pos h2, if_pos h2]
      obtain ⟨rfl, rfl⟩ := y1 h1
      exact ⟨rfl, _, _, h.bump 1 (by decide)⟩
    · rw [if_neg h2, if_neg h2]
      obtain ⟨rfl, e⟩ := y2 h1
      generalize i.toNatClampNeg = k at e hi h5 h6
      obtain ⟨⟨g1, g2, g3, g4⟩, ⟨b1, b2, b3, b4⟩, r, l, G⟩ := h
      have gn : ∀ a, 12 < a ∨ a = 1 → goI J k a = J a := fun a ha => go_n J k a (by omega) (by omega) (by omega) (by omega) (by omega) (by omega) (by omega) (by omega) (by omega) (by omega) (by omega) (by omega)
      refine ⟨rfl, s2, b, ⟨h3, h4, xSt.copy h3 h5 e, h6⟩, ⟨b1, by rw [e.1 54 (by omega)]; exact b2, by rw [go_z _ _ _ (by decide) (by decide) (by decide) (by decide) (by decide) (by decide)]; exact b3, fun i hi => by rw [e.1 56 (by omega), gn 20 (by omega)]; exact b4 i hi⟩, fun j hj => by rw [e.1 76 (by omega), gn 1 (by omega)]; exact r j hj, l, G.fr (fun a a1 a2 => e.1 a (by omega)) (fun x _ => by rw [gn 23 (by omega)]) (fun x _ => by rw [gn 24 (by omega)])⟩
  · rw [if_neg q, if_neg q]
    obtain ⟨rfl, rfl⟩ := x2 q
    exact ⟨rfl, _, _, h.bump 0 (by decide)⟩
theorem lw_digest (h : lwR s b I L J M) (hm : w = .long (dgV s.1 s.2.1 s.2.2.1 s.2.2.2.1 s.2.2.2.2.1 s.2.2.2.2.2.1 (J 0 29) (J 0 16) (J 0 17) (M 0 24) (M 0 25)) ∧ J' = J ∧ (∀ a, a ≠ 0 → M' a = M a) ∧ ∀ j, j ≠ 38 → M' 0 j = M 0 j) : lwE (.long (dgV s.1 s.2.1 s.2.2.1 s.2.2.2.1 s.2.2.2.2.1 s.2.2.2.2.2.1 (I 54 0) (I 8 5) (I 8 6) (L 0 11) (L 0 12))) w I L J' M' := by
  obtain ⟨rfl, rfl, m1, m2⟩ := hm
  obtain ⟨⟨g1, g2, g3, g4⟩, ⟨b1, b2, b3, b4⟩, r, ⟨l1, l2⟩, G⟩ := h
  have e5 := g3.num
  refine ⟨?_, s, b, ⟨g1, g2, g3, g4⟩, ⟨b1, b2, b3, b4⟩, r, ⟨by rw [m2 24 (by decide)]; exact l1, by rw [m2 25 (by decide)]; exact l2⟩, G⟩
  rw [b2, b3, e5.2.2.2.2.1, e5.2.2.2.2.2, g4.mk'.2.2.1, g4.mk'.2.2.2, l1, l2]
theorem lw_readV {T : Nat → Int32} (h : rdE s T b w J') : w = .int (rdA s T b).1 ∧ mSt (rdA s T b).2 J' := by
  obtain ⟨h1, h2⟩ := h
  unfold rdA
  by_cases q : (rdG T b 60 0).1 = false
  · rw [if_pos q]; exact h1 q
  · rw [if_neg q]
    obtain ⟨h3, h4⟩ := h2 (by cases hq : (rdG T b 60 0).1 with | false => exact absurd hq q | true => rfl)
    by_cases q2 : (apR (imW T b) (imA T b) (imB T b) (rdG T b 60 0).2 0 s).1 < (rdG T b 60 0).2
    · rw [if_pos q2]; exact h3 q2
    · rw [if_neg q2]; exact h4 q2
theorem lw_readD {T : Nat → Int32} (hs : stOk s) (hD : stD s) : stD (rdA s T b).2 := by
  unfold rdA
  by_cases q : (rdG T b 60 0).1 = false
  · rw [if_pos q]; exact hD
  · rw [if_neg q]
    by_cases q2 : (apR (imW T b) (imA T b) (imB T b) (rdG T b 60 0).2 0 s).1 < (rdG T b 60 0).2
    · rw [if_pos q2]; exact hD
    · rw [if_neg q2]; exact (apR_ok _ _ hs hD).2
theorem lw_read (h : lwR s b I L J M) (hx : rdX (rdA s (J 20) b) I L v I' L') (hm : rdE s (J 20) b w J' ∧ rdO J J' ∧ M' = M) : lwE v w I' L' J' M' := by
  obtain ⟨rfl, rfl, x3, x4, x5⟩ := hx
  obtain ⟨m1, ⟨o1, o2, o3, o4, o5⟩, rfl⟩ := hm
  obtain ⟨rfl, m2⟩ := lw_readV m1
  obtain ⟨⟨g1, g2, g3, g4⟩, ⟨b1, b2, b3, b4⟩, r, l, G⟩ := h
  refine ⟨rfl, _, b, ⟨m2.ok, lw_readD g1 g2, x3, m2⟩, ⟨b1, x5.trans b2, o3.trans b3, fun i hi => ?_⟩, fun j hj => ?_, l, G.fr (fun a a1 a2 => x4 a (by omega)) (fun x hx => o4 x hx) (fun x hx => o5 x hx)⟩
  · rw [x4 56 (by omega)]
    exact (b4 i hi).trans (congrFun o2 i).symm
  · rw [x4 76 (by omega)]
    exact (r j hj).trans (o1 j hj).symm
theorem lw_outF {o : oT} {F : Option (Nat × Nat)} (h : lwR s b I L J M) (hD : stD o.2.1) (hx : xOuF o F I L v I' L') (hm : mOuF o F J M w J' M') : lwE v w I' L' J' M' := by
  obtain ⟨x1, rfl⟩ := hx
  obtain ⟨m1, rfl⟩ := hm
  obtain ⟨e, h1, h2, h3, h4, h5⟩ := h.step hD x1 m1
  refine ⟨e, _, _, h1, h2, h3, ?_, h5⟩
  cases F with
  | none => exact h4
  | some q =>
    obtain ⟨a, c⟩ := q
    exact ⟨rfl, rfl⟩
end LWT
