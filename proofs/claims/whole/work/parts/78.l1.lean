/-! the law: the relation of the two -/
def lwG (I J : fdI) : Prop := ∀ i, i < 2 → (I 53 i = 0 ∧ J 23 (72 * i) = 0) ∨ (¬ I 53 i = 0 ∧ ¬ J 23 (72 * i) = 0 ∧ ∃ s : pS, stOk s ∧ stD s ∧ xSt (30 + 11 * i) s I ∧ mSt s (goI J i))
def lwR (s : pS) (b : Nat) (I : fdI) (L : fdL) (J : fdI) (M : fdL) : Prop := (stOk s ∧ stD s ∧ xSt 8 s I ∧ mSt s J) ∧ (b ≤ 150 ∧ I 54 0 = nI b ∧ J 0 29 = nI b ∧ ∀ i, i < b → I 56 i = J 20 i) ∧ (∀ j, j < 3 → I 76 j = J 1 j) ∧ (L 0 11 = M 0 24 ∧ L 0 12 = M 0 25) ∧ lwG I J
theorem lwG.fr {I I' J J' : fdI} (h : lwG I J) (hI : ∀ a, 30 ≤ a → a < 54 → I' a = I a) (hJ : ∀ x, x < 144 → J' 23 x = J 23 x) (hA : ∀ x, x < 6 → J' 24 x = J 24 x) : lwG I' J' := by
  intro i hi
  rcases h i hi with ⟨h1, h2⟩ | ⟨h1, h2, s, h3, h4, h5, h6⟩
  · exact Or.inl ⟨by rw [hI 53 (by omega) (by omega)]; exact h1, by rw [hJ _ (by omega)]; exact h2⟩
  · exact Or.inr ⟨by rw [hI 53 (by omega) (by omega)]; exact h1, by rw [hJ _ (by omega)]; exact h2, s, h3, h4, h5.same (fun a a1 a2 => hI a (by omega) (by omega)), h6.lf (go_lf J J' i (fun x hx => hJ _ (by omega)) (fun x hx => hA _ (by omega)))⟩
theorem lwR.step {s : pS} {b : Nat} {I J I' J' : fdI} {L M L' M' : fdL} {o : oT} {v w : Value} (h : lwR s b I L J M) (hD : stD o.2.1) (hx : xOut o I L v I' L') (hm : mOut o J M w J' M') : v = w ∧ lwR o.2.1 b I' L' J' M' := by
  obtain ⟨⟨g1, g2, g3, g4⟩, ⟨b1, b2, b3, b4⟩, r, ⟨l1, l2⟩, G⟩ := h
  obtain ⟨rfl, rfl, x3, x4, x5⟩ := hx
  obtain ⟨rfl, rfl, m3, m4, m5⟩ := hm
  refine ⟨rfl, ⟨m3.ok, hD, x3, m3⟩, ⟨b1, by rw [x4 54 (by omega)]; exact b2, m4.2.2.2.trans b3, fun i hi => by rw [x4 56 (by omega), m4.1]; exact b4 i hi⟩, fun j hj => ?_, ⟨l1, l2⟩, G.fr (fun a a1 a2 => x4 a (by omega)) (fun x _ => by rw [m4.2.1]) (fun x _ => by rw [m4.2.2.1])⟩
  have e : I' 76 j = bmp o.2.2 (I 76) j := x5 j hj
  have e2 : J' 1 j = bmp o.2.2 (J 1) j := m5 j hj
  rw [e, e2]
  unfold bmp
  by_cases q : j = o.2.2
  · rw [if_pos q, if_pos q, r j hj]
  · rw [if_neg q, if_neg q, r j hj]
/-- what a call of each of the two must come to -/
def lwE (v w : Value) (I' : fdI) (L' : fdL) (J' : fdI) (M' : fdL) : Prop := v = w ∧ ∃ (s' : pS) (b' : Nat), lwR s' b' I' L' J' M'
theorem lwR.go {s : pS} {b : Nat} {I J I' J' : fdI} {L M L' M' : fdL} {o : oT} {v w : Value} (h : lwR s b I L J M) (hD : stD o.2.1) (hx : xOut o I L v I' L') (hm : mOut o J M w J' M') : lwE v w I' L' J' M' := ⟨(h.step hD hx hm).1, _, _, (h.step hD hx hm).2⟩
theorem lwR.bump {s : pS} {b : Nat} {I J : fdI} {L M : fdL} (h : lwR s b I L J M) (q : Nat) (hq : q < 3) : lwR s b (fd_up I 76 q (I 76 q + 1)) L (fd_up J 1 q (J 1 q + 1)) M := by
  obtain ⟨⟨g1, g2, g3, g4⟩, ⟨b1, b2, b3, b4⟩, r, l, G⟩ := h
  refine ⟨⟨g1, g2, g3.same (fun a a1 a2 => fd_up_cell (by omega)), g4.refus⟩, ⟨b1, b2, b3, b4⟩, fun j hj => ?_, l, G.fr (fun a a1 a2 => fd_up_cell (by omega)) (fun x _ => rfl) (fun x _ => rfl)⟩
  rw [fd_up_at, fd_up_at, r q hq, r j hj]
section LWS
variable {s : pS} {b : Nat} {I J I' J' : fdI} {L M L' M' : fdL} {v w : Value}
theorem sd_day (d k : Int32) (h : stD s) : stD (o_day s d k).2.1 := by
  unfold o_day
  (repeat' split) <;> first | exact h | exact h.day
theorem sd_life (n : Int32) (h : stD s) : stD (o_life s n).2.1 := by
  unfold o_life
  (repeat' split) <;> first | exact h | exact stD.life
theorem sd_at (d k : Int32) (h : stD s) : stD (o_at s d k).2.1 := by
  unfold o_at
  (repeat' split) <;> first | exact h | exact h.at
theorem sd_diary (d k : Int32) (h : stD s) : stD (o_diary s d k).2.1 := by
  unfold o_diary
  (repeat' split) <;> first | exact h | exact h.diary
theorem sd_order (r : Int32) (h : stD s) : stD (o_order s r).2.1 := by
  unfold o_order
  (repeat' split) <;> first | exact h | exact h.order
theorem sd_other (r : Int32) (h : stD s) : stD (o_other s r).2.1 := by
  unfold o_other
  (repeat' split) <;> first | exact h | exact h.other
theorem sd_told (r : Int32) (h : stD s) : stD (o_told s r).2.1 := by
  unfold o_told
  (repeat' split) <;> first | exact h | exact h.told
theorem sd_note (d f : Int32) (h : stD s) : stD (o_note s d f).2.1 := by
  unfold o_note
  (repeat' split) <;> first | exact h | exact h.note
theorem sd_tear (w : Int32) (h : stD s) : stD (o_tear s w).2.1 := by
  unfold o_tear
  (repeat' split) <;> first | exact h | exact h.tear
theorem sd_undo  (h : stD s) : stD (o_undo s ).2.1 := by
  unfold o_undo
  (repeat' split) <;> first | exact h | exact h.live
theorem sd_live  (h : stD s) : stD (o_live s ).2.1 := by
  unfold o_live
  (repeat' split) <;> first | exact h | exact h.live
theorem sd_lived (d : Int32) (h : stD s) : stD (o_lived s d).2.1 := by
  unfold o_lived
  (repeat' split) <;> first | exact h | exact h
theorem sd_knows (d : Int32) (h : stD s) : stD (o_knows s d).2.1 := by
  unfold o_knows
  (repeat' split) <;> first | exact h | exact h
theorem sd_reads (d : Int32) (h : stD s) : stD (o_reads s d).2.1 := by
  unfold o_reads
  (repeat' split) <;> first | exact h | exact h
theorem sd_missing (d : Int32) (h : stD s) : stD (o_missing s d).2.1 := by
  unfold o_missing
  (repeat' split) <;> first | exact h | exact h
theorem sd_cards (d : Int32) (h : stD s) : stD (o_cards s d).2.1 := by
  unfold o_cards
  (repeat' split) <;> first | exact h | exact h
theorem sd_first (w : Int32) (h : stD s) : stD (o_first s w).2.1 := by
  unfold o_first
  (repeat' split) <;> first | exact h | exact h
theorem sd_sofar (w : Int32) (h : stD s) : stD (o_sofar s w).2.1 := by
  unfold o_sofar
  (repeat' split) <;> first | exact h | exact h
theorem sd_hang (i : Int32) (h : stD s) : stD (o_hang s i).2.1 := by
  unfold o_hang
  (repeat' split) <;> first | exact h | exact h
theorem sd_when (d set : Int32) (h : stD s) : stD (o_when s d set).2.1 := by
  unfold o_when
  (repeat' split) <;> first | exact h | exact h
theorem sd_torn (w : Int32) (h : stD s) : stD (o_torn s w).2.1 := by
  unfold o_torn
  (repeat' split) <;> first | exact h | exact h
theorem sd_must (d : Int32) (h : stD s) : stD (o_must s d).2.1 := by
  unfold o_must
  (repeat' split) <;> first | exact h | exact h
theorem sd_best  (h : stD s) : stD (o_best s ).2.1 := by
  unfold o_best
  (repeat' split) <;> first | exact h | exact h
theorem sd_mean  (h : stD s) : stD (o_mean s ).2.1 := by
  unfold o_mean
  (repeat' split) <;> first | exact h | exact h
theorem sd_promise (f a b : Int32) (h : stD s) : stD (o_promise s f a b).2.1 := by
  unfold o_promise
  (repeat' split) <;> first | exact h | exact h
theorem sd_two (d : Int32) (h : stD s) : stD (o_two s d).2.1 := by
  unfold o_two
  (repeat' split) <;> first | exact h | exact h
theorem sd_settle (f w : Int32) (h : stD s) : stD (o_settle s f w).2.1 := by
  unfold o_settle
  (repeat' split) <;> first | exact h | exact h
theorem sd_game (w : Int32) (h : stD s) : stD (o_game s w).2.1 := by
  unfold o_game
  (repeat' split) <;> first | exact h | exact h
theorem sd_notes (w : Int32) (h : stD s) : stD (o_notes s w).2.1 := by
  unfold o_notes
  (repeat' split) <;> first | exact h | exact h
theorem sd_ahead (a b : Int32) (h : stD s) : stD (o_ahead s a b).2.1 := by
  unfold o_ahead
  split
  · rename_i q
    split
    · exact h
    · exact h.ahead q.2.2
  · exact h
theorem sd_fact (d w f b : Int32) (h : stD s) : stD (o_fact s d w f b).2.1 := by
  unfold o_fact
  split
  · rename_i q
    split
    · exact h
    · exact h.fact (dayP_c (by decide) q.2.1)
  · exact h
theorem sd_count (b : Nat) (w : Int32) (h : stD s) : stD (o_count s b w).2.1 := by
  unfold o_count
  split <;> exact h
end LWS
