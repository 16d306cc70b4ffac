/-! ===== the law: the first relation ===== -/
theorem lt_R {I J : fdI} {L M : fdL} (h1 : anX 8 I) (h2 : ∀ a, a < 8 ∨ (51 < a ∧ a < 77) → I a = fun _ => 0) (h3 : bgI (fun _ _ => 0) J 4) (h4 : L 0 11 = M 0 24) (h5 : L 0 12 = M 0 25) : lwR (opLife 4) 0 I L J M := by
  have hm : mSt (opLife 4) J := mSt.bgI (n := 4) (by decide) h3
  have hx : xSt 8 (opLife 4) I := by
    obtain ⟨⟨a1, a2, a3, a4, a5, a6, a7⟩, b1, -⟩ := h1
    exact xSt.life (n := 4) (by decide) (I := I) ⟨fun _ _ => rfl, a1, a2, a3, a4, a5, a6, a7, b1⟩
  have hj : ∀ a, (a ≠ 0 ∧ a ≠ 2 ∧ a ≠ 3 ∧ a ≠ 4 ∧ a ≠ 5 ∧ a ≠ 6 ∧ a ≠ 12) → J a = fun _ => 0 := fun a ha => h3.1 a ha.1 ha.2.1 ha.2.2.1 ha.2.2.2.1 ha.2.2.2.2.1 ha.2.2.2.2.2.1 ha.2.2.2.2.2.2
  refine ⟨⟨hm.ok, stD.life, hx, hm⟩, ⟨by decide, by rw [h2 54 (by omega)]; rfl, by rw [h3.2.1 29 (by decide) (by decide) (by decide) (by decide) (by decide) (by decide)]; rfl, fun i hi => absurd hi (Nat.not_lt_zero i)⟩, fun j hj' => by rw [h2 76 (by omega), hj 1 (by decide)], ⟨h4, h5⟩, fun i hi => Or.inl ⟨by rw [h2 53 (by omega)], by rw [hj 23 (by decide)]⟩⟩
