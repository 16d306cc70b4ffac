/-! the model: the text is read -/
/-- the life's cells alone count, as far as they go -/
def lfE (I J : fdI) : Prop := (∀ j, j = 1 ∨ j = 7 ∨ j = 10 ∨ j = 13 ∨ j = 16 ∨ j = 17 → J 0 j = I 0 j) ∧ (∀ x, x < 7 → J 2 x = I 2 x ∧ J 3 x = I 3 x ∧ J 4 x = I 4 x ∧ J 5 x = I 5 x ∧ J 6 x = I 6 x ∧ J 12 x = I 12 x) ∧ (∀ x, x < 6 → J 7 x = I 7 x ∧ J 8 x = I 8 x ∧ J 9 x = I 9 x ∧ J 10 x = I 10 x) ∧ ∀ x, x < 3 → J 11 x = I 11 x
theorem mSt.lf {s : pS} {I J : fdI} (h : mSt s I) (e : lfE I J) : mSt s J := by
  obtain ⟨V, n, nn, np, nt, rk, ot, ly⟩ := s
  obtain ⟨k1, k2, k3, k4, k5, k6, k7⟩ := h
  obtain ⟨a1, a2, a3, a4, a5, a6, a7, a8, a9, a10⟩ := k1
  obtain ⟨h0, h1, h2, h3⟩ := e
  refine ⟨⟨(h0 1 (by decide)).trans a1, a2, (h0 7 (by decide)).trans a3, a4, (h0 10 (by decide)).trans a5, a6, (h0 13 (by decide)).trans a7, a8, ⟨fun d hd => ?_, fun k hk => ?_, fun k hk => ?_, fun k hk => ?_⟩, a10⟩, k2, fun k hk => ?_, (h0 16 (by decide)).trans k4, k5, (h0 17 (by decide)).trans k6, k7⟩
  · obtain ⟨g1, g2, g3, g4, g5⟩ := a9.1 d hd
    obtain ⟨b1, b2, b3, b4, b5, b6⟩ := h1 d (by omega)
    exact ⟨b1.trans g1, b2.trans g2, b3.trans g3, b4.trans g4, b6.trans g5⟩
  · obtain ⟨b1, b2, b3, b4⟩ := h2 k (by omega)
    exact ⟨b1.trans (a9.2.1 k hk).1, b2.trans (a9.2.1 k hk).2⟩
  · obtain ⟨b1, b2, b3, b4⟩ := h2 k (by omega)
    exact ⟨b3.trans (a9.2.2.1 k hk).1, b4.trans (a9.2.2.1 k hk).2⟩
  · exact (h3 k (by omega)).trans (a9.2.2.2 k hk)
  · exact (h1 k (by omega)).2.2.2.2.1.trans (k3 k hk)
theorem go_lf (I J : fdI) (i : Nat) (h : ∀ x, x < 72 → J 23 (72 * i + x) = I 23 (72 * i + x)) (h2 : ∀ x, x < 3 → J 24 (3 * i + x) = I 24 (3 * i + x)) : lfE (goI I i) (goI J i) := by
  refine ⟨fun j hj => ?_, fun x hx => ⟨?_, ?_, ?_, ?_, ?_, ?_⟩, fun x hx => ⟨?_, ?_, ?_, ?_⟩, fun x hx => ?_⟩
  · rcases hj with rfl | rfl | rfl | rfl | rfl | rfl
    · rw [go_s0, go_s0]; exact h 0 (by omega)
    · rw [go_s1, go_s1]; exact h 1 (by omega)
    · rw [go_s2, go_s2]; exact h 2 (by omega)
    · rw [go_s3, go_s3]; exact h 3 (by omega)
    · rw [go_s4, go_s4]; exact h 4 (by omega)
    · rw [go_s5, go_s5]; exact h 5 (by omega)
  · rw [go_kinds _ _ _ hx, go_kinds _ _ _ hx, Nat.add_assoc]; exact h _ (by omega)
  · rw [go_needs _ _ _ hx, go_needs _ _ _ hx, Nat.add_assoc]; exact h _ (by omega)
  · rw [go_teaches _ _ _ hx, go_teaches _ _ _ hx, Nat.add_assoc]; exact h _ (by omega)
  · rw [go_ats _ _ _ hx, go_ats _ _ _ hx, Nat.add_assoc]; exact h _ (by omega)
  · rw [go_row _ _ _ hx, go_row _ _ _ hx, Nat.add_assoc]; exact h _ (by omega)
  · rw [go_diary _ _ _ hx, go_diary _ _ _ hx, Nat.add_assoc]; exact h _ (by omega)
  · rw [go_noteDays _ _ _ hx, go_noteDays _ _ _ hx, Nat.add_assoc]; exact h _ (by omega)
  · rw [go_noteFacts _ _ _ hx, go_noteFacts _ _ _ hx, Nat.add_assoc]; exact h _ (by omega)
  · rw [go_firsts _ _ _ hx, go_firsts _ _ _ hx, Nat.add_assoc]; exact h _ (by omega)
  · rw [go_seconds _ _ _ hx, go_seconds _ _ _ hx, Nat.add_assoc]; exact h _ (by omega)
  · rw [go_told _ _ _ hx, go_told _ _ _ hx]; exact h2 _ hx
theorem kp_lf (I : fdI) (i : Nat) : lfE I (goI (kpI I i) i) := by
  refine ⟨fun j hj => ?_, fun x hx => ⟨?_, ?_, ?_, ?_, ?_, ?_⟩, fun x hx => ⟨?_, ?_, ?_, ?_⟩, fun x hx => ?_⟩
  · rcases hj with rfl | rfl | rfl | rfl | rfl | rfl
    · rw [go_s0, kp_s0]
    · rw [go_s1, kp_s1]
    · rw [go_s2, kp_s2]
    · rw [go_s3, kp_s3]
    · rw [go_s4, kp_s4]
    · rw [go_s5, kp_s5]
  · rw [go_kinds _ _ _ hx, kp_kinds _ _ _ hx]
  · rw [go_needs _ _ _ hx, kp_needs _ _ _ hx]
  · rw [go_teaches _ _ _ hx, kp_teaches _ _ _ hx]
  · rw [go_ats _ _ _ hx, kp_ats _ _ _ hx]
  · rw [go_row _ _ _ hx, kp_row _ _ _ hx]
  · rw [go_diary _ _ _ hx, kp_diary _ _ _ hx]
  · rw [go_noteDays _ _ _ hx, kp_noteDays _ _ _ hx]
  · rw [go_noteFacts _ _ _ hx, kp_noteFacts _ _ _ hx]
  · rw [go_firsts _ _ _ hx, kp_firsts _ _ _ hx]
  · rw [go_seconds _ _ _ hx, kp_seconds _ _ _ hx]
  · rw [go_told _ _ _ hx, kp_told _ _ _ hx]
/-- where the k-th item begins -/
def psF (T : Nat → Int32) (b : Nat) : Nat → Nat
  | 0 => sk T b 0
  | k + 1 => sk T b (itR T b k (psF T b k)).2
/-- the text: how many items, or the fault -/
def rdG (T : Nat → Int32) (b : Nat) : Nat → Nat → Bool × Nat
  | 0, k => (true, k)
  | f + 1, k => if (itR T b k (psF T b k)).1 = true then (if psF T b (k + 1) < b then rdG T b f (k + 1) else (true, k + 1)) else (false, (itR T b k (psF T b k)).2)
def imW (T : Nat → Int32) (b k : Nat) : Int32 := itW T b (psF T b k)
def imA (T : Nat → Int32) (b k : Nat) : Int32 := T (itA T b (psF T b k)) - 48
def imB (T : Nat → Int32) (b k : Nat) : Int32 := if itW T b (psF T b k) = 0 then 0 else T (itB T b (psF T b k)) - 48
theorem itR_ok {T : Nat → Int32} {b k p : Nat} (hp : p ≤ b) (h : (itR T b k p).1 = true) : p + 3 ≤ (itR T b k p).2 ∧ (itR T b k p).2 ≤ b ∧ ¬ itW T b p = -1 := by
  have hs0 := sk_le (T := T) hp
  have he0 := le_le (T := T) hs0.2
  have hs1 := sk_le (T := T) he0.2
  unfold itR at h ⊢
  by_cases c0 : itW T b p = -1 ∨ ¬ (itW T b p = 0 ↔ k = 0)
  · rw [if_pos c0] at h; cases h
  · rw [if_neg c0] at h ⊢
    have hw : ¬ itW T b p = -1 := fun q => c0 (Or.inl q)
    have hlt : sk T b p < le T b (sk T b p) := by
      rcases Nat.lt_or_ge (sk T b p) (le T b (sk T b p)) with q | q
      · exact q
      · refine absurd ?_ hw
        unfold itW
        rw [show le T b (sk T b p) - sk T b p = 0 by omega]
        rfl
    by_cases c1 : fgB T b (itA T b p) = false
    · rw [if_pos c1] at h; cases h
    · rw [if_neg c1] at h ⊢
      have hA := fgB_lt (eq_true_of_ne_false c1)
      have hA2 : le T b (sk T b p) ≤ itA T b p := hs1.1
      by_cases c2 : ¬ itW T b p = 0 ∧ fgB T b (itB T b p) = false
      · rw [if_pos c2] at h; cases h
      · rw [if_neg c2] at h ⊢
        by_cases c3 : itC T b p = b ∨ ¬ T (itC T b p) = 59
        · rw [if_pos c3] at h; cases h
        · rw [if_neg c3]
          have hC : itA T b p + 1 ≤ itC T b p ∧ itC T b p ≤ b := by
            unfold itC
            split
            · exact sk_le (by omega)
            · next q =>
              have hb2 := fgB_lt (b := b) (s := itB T b p) (T := T) (by
                cases z : fgB T b (itB T b p) with
                | true => rfl
                | false => exact absurd ⟨q, z⟩ c2)
              have hB : itA T b p + 1 ≤ itB T b p := (sk_le (T := T) (b := b) (p := itA T b p + 1) (by omega)).1
              have := sk_le (T := T) (b := b) (p := itB T b p + 1) (by omega)
              omega
          have : ¬ itC T b p = b := fun q => c3 (Or.inl q)
          show p + 3 ≤ itC T b p + 1 ∧ itC T b p + 1 ≤ b ∧ _
          exact ⟨by omega, by omega, hw⟩
theorem wdI_P (w : Int64) : wdI w = -1 ∨ dayP (wdI w) 7 := by
  unfold wdI
  repeat' split
  all_goals first | exact Or.inl rfl | exact Or.inr (by decide)
/-- how far the items are taken, and the life then -/
def apR (W A B : Nat → Int32) : Nat → Nat → pS → Nat × pS
  | 0, i, s => (i, s)
  | m + 1, i, s => if (apI s (W i) (A i) (B i)).1 = true then apR W A B m (i + 1) (apI s (W i) (A i) (B i)).2 else (i, s)
/-- what reading leaves as it was -/
def rdO (I I' : fdI) : Prop := (∀ j, j < 3 → I' 1 j = I 1 j) ∧ I' 20 = I 20 ∧ I' 0 29 = I 0 29 ∧ (∀ x, x < 144 → I' 23 x = I 23 x) ∧ ∀ x, x < 6 → I' 24 x = I 24 x
/-- read's end -/
def rdE (s : pS) (T : Nat → Int32) (b : Nat) (v : Value) (I' : fdI) : Prop :=
  ((rdG T b 60 0).1 = false → v = .int (-10 - nI (rdG T b 60 0).2) ∧ mSt s I') ∧
  ((rdG T b 60 0).1 = true → ((apR (imW T b) (imA T b) (imB T b) (rdG T b 60 0).2 0 s).1 < (rdG T b 60 0).2 → v = .int (-1000 - nI (apR (imW T b) (imA T b) (imB T b) (rdG T b 60 0).2 0 s).1) ∧ mSt s I') ∧
    (¬ (apR (imW T b) (imA T b) (imB T b) (rdG T b 60 0).2 0 s).1 < (rdG T b 60 0).2 → v = .int (nI (rdG T b 60 0).2) ∧ mSt (apR (imW T b) (imA T b) (imB T b) (rdG T b 60 0).2 0 s).2 I'))
theorem pick_no {c : Prop} [Decidable c] {x s : pS} (h : ¬ (if c then (true, x) else (false, s)).1 = true) : (if c then (true, x) else (false, s)).2 = s := by
  by_cases q : c
  · rw [if_pos q] at h; exact absurd rfl h
  · rw [if_neg q]
theorem apI_no {s : pS} {w a b : Int32} (h : ¬ (apI s w a b).1 = true) : (apI s w a b).2 = s := by
  unfold apI at h ⊢
  by_cases q0 : w = 0
  · rw [if_pos q0] at h ⊢; exact pick_no h
  rw [if_neg q0] at h ⊢
  by_cases q0 : w = 1
  · rw [if_pos q0] at h ⊢; exact pick_no h
  rw [if_neg q0] at h ⊢
  by_cases q0 : w = 2
  · rw [if_pos q0] at h ⊢; exact pick_no h
  rw [if_neg q0] at h ⊢
  by_cases q0 : w = 3
  · rw [if_pos q0] at h ⊢; exact pick_no h
  rw [if_neg q0] at h ⊢
  by_cases q0 : w = 4
  · rw [if_pos q0] at h ⊢; exact pick_no h
  rw [if_neg q0] at h ⊢
  by_cases q0 : w = 5
  · rw [if_pos q0] at h ⊢; exact pick_no h
  rw [if_neg q0] at h ⊢
  exact pick_no h
theorem cp3_1 {I : fdI} {dst src m : Nat} : fd_up (lyI I dst src m 0) dst m (I src m) = lyI I dst src (m + 1) 0 := by
  have := lyI_1 (I := I) (dst := dst) (src := src) (m := m) (k := 0)
  rwa [Nat.zero_add] at this
theorem apR_stop {W A B : Nat → Int32} {m i : Nat} {s : pS} (h : ¬ (apI s (W i) (A i) (B i)).1 = true) : apR W A B (m + 1) i s = (i, s) := if_neg h
theorem apR_go {W A B : Nat → Int32} {m i : Nat} {s : pS} (h : (apI s (W i) (A i) (B i)).1 = true) : apR W A B (m + 1) i s = apR W A B m (i + 1) (apI s (W i) (A i) (B i)).2 := if_pos h
/-- how the text is taken apart: the state between two items -/
def psP (I J : fdI) (b k : Nat) : Prop := (∀ a, a ≠ 0 → a ≠ 21 → J a = I a) ∧ (∀ j, j ≠ 30 → j ≠ 31 → j ≠ 32 → j ≠ 33 → J 0 j = I 0 j) ∧ J 0 33 = nI k ∧ ∀ i, i < k → J 21 (3 * i) = imW (I 20) b i ∧ J 21 (3 * i + 1) = imA (I 20) b i ∧ J 21 (3 * i + 2) = imB (I 20) b i ∧ dayP (imW (I 20) b i) 7
theorem c_X11_read (s : pS) (α : Nat → Nat) (I : fdI) (L : fdL) {b : Nat} (h : mSt s I) (hb : I 0 29 = nI b) (hb150 : b ≤ 150) : Con fd_SM α yX11_read mX11_read [.ref (α 0)] I L (fd_ip (fun v I' L' => rdE s (I 20) b v I' ∧ rdO I I' ∧ L' = L)) := by
  refine Con.of (by decide) rfl (Nat.le_of_ble_eq_true rfl) ?_
  generalize hT : I 20 = T
  -- the end, behind the items
  have bad : (rdG T b 60 0).1 = false → ∀ (x : Int32) (I1 : fdI), (∀ a, a ≠ 0 → a ≠ 21 → I1 a = I a) → (∀ j, j ≠ 30 → j ≠ 31 → j ≠ 32 → j ≠ 33 → I1 0 j = I 0 j) → I1 0 32 = 1 → I1 0 31 = nI (rdG T b 60 0).2 → Rn fd_SM α mX11_read 70 [(0, .ref (α 0))] [] I1 L (fd_ip (fun v I' L' => rdE s T b v I' ∧ rdO I I' ∧ L' = L)) := by
    intro hG x I1 g1 g2 g3 g4
    refine r_aload_n dX11_read_70 rfl ?_
    refine r_getV rfl rfl fl_11_254 dX11_read_71 g3 ?_
    refine r_if_eq 85 dX11_read_74 (by decide) (fun h74 => absurd h74 (by decide)) (fun h74 => ?_)
    refine r_bipush (v := (-10)) dX11_read_77 rfl ?_
    refine r_aload_n dX11_read_79 rfl ?_
    refine r_getV rfl rfl fl_11_224 dX11_read_80 g4 ?_
    refine r_isub dX11_read_83 ?_
    refine r_iret rfl dX11_read_84 ?_
    refine ⟨_, rfl, ⟨fun _ => ⟨rfl, h.same (fun j hj => g2 j (by omega) (by omega) (by omega) (by omega)) (fun a a1 a2 => g1 a (by omega) (by show a ≠ 21; omega))⟩, fun z => (by rw [hG] at z; cases z)⟩, ⟨fun j _ => by rw [g1 1 (by decide) (by decide)], g1 20 (by decide) (by decide), g2 29 (by decide) (by decide) (by decide) (by decide), fun x _ => by rw [g1 23 (by decide) (by decide)], fun x _ => by rw [g1 24 (by decide) (by decide)]⟩, rfl⟩
  have good : ∀ K, rdG T b 60 0 = (true, K) → 3 * K ≤ 150 → ∀ I1 : fdI, psP I I1 b K → I1 0 32 = 0 → Rn fd_SM α mX11_read 70 [(0, .ref (α 0))] [] I1 L (fd_ip (fun v I' L' => rdE s T b v I' ∧ rdO I I' ∧ L' = L)) := by
    intro K hG hK I1 ⟨g1, g2, g3, g4⟩ gw
    have st1 : mSt s I1 := h.same (fun j hj => g2 j (by omega) (by omega) (by omega) (by omega)) (fun a a1 a2 => g1 a (by omega) (by show a ≠ 21; omega))
    rw [hT] at g4
    have kp : ∀ a, a ≠ 0 → a ≠ 21 → a ≠ 22 → a ≠ 23 → a ≠ 24 → kpI (lyI I1 22 1 3 0) 2 a = I a := fun a a0 a1 a2 a3 a4 => by rw [kp_n _ _ _ a3 a4, lyI_ne a2]; exact g1 a a0 a1
    have kp0 : ∀ j, kpI (lyI I1 22 1 3 0) 2 0 j = I1 0 j := fun j => by rw [kp_n _ _ _ (by decide) (by decide), lyI_ne (by decide)]
    have kc : ∀ x, x < 3 → kpI (lyI I1 22 1 3 0) 2 22 x = I 1 x := fun x hx => by
      have e := lyI_in (I := I1) (dst := 22) (src := 1) (k := 0) hx
      rw [Nat.zero_add] at e
      rw [kp_n _ _ _ (by decide) (by decide), e, g1 1 (by decide) (by decide)]
    have kr : kpI (lyI I1 22 1 3 0) 2 21 = I1 21 := by rw [kp_n _ _ _ (by decide) (by decide), lyI_ne (by decide)]
    have ki : ∀ x, x < 144 → kpI (lyI I1 22 1 3 0) 2 23 x = I 23 x := fun x hx => by rw [kp_o _ _ _ (by omega), lyI_ne (by decide), g1 23 (by decide) (by decide)]
    have ka : ∀ x, x < 6 → kpI (lyI I1 22 1 3 0) 2 24 x = I 24 x := fun x hx => by rw [kp_p _ _ _ (by omega), lyI_ne (by decide), g1 24 (by decide) (by decide)]
    have stc : mSt s (lyI I1 22 1 3 0) := st1.same (fun j hj => by rw [lyI_ne (by decide)]) (fun a a1 a2 => lyI_ne (by show a ≠ 22; omega))
    have stk : mSt s (kpI (lyI I1 22 1 3 0) 2) := stc.same (fun j hj => by rw [kp_n _ _ _ (by decide) (by decide)]) (fun a a1 a2 => kp_n _ _ _ (by omega) (by omega))
    -- the refusals, put back; then the answer
    have back : ∀ m x, m + x = 3 → ∀ i si, apR (imW T b) (imA T b) (imB T b) K 0 s = (i, si) → i ≤ K → ∀ I2 : fdI, mSt si I2 → (∀ a, a ≠ 0 → a ≠ 1 → 12 < a → I2 a = kpI (lyI I1 22 1 3 0) 2 a) → (∀ j, j ≠ 1 → j ≠ 7 → j ≠ 10 → j ≠ 13 → j ≠ 16 → j ≠ 17 → I2 0 j = I1 0 j) → (∀ j, j < x → I2 1 j = I 1 j) → Rn fd_SM α mX11_read 141 [(3, .int (nI x)), (0, .ref (α 0)), (2, .int (nI i))] [] I2 L (fd_ip (fun v I' L' => rdE s T b v I' ∧ rdO I I' ∧ L' = L)) := by
      intro m
      induction m with
      | zero =>
        intro x hx i si hA hi I2 f0 f1 f2 f3
        obtain rfl : x = 3 := by omega
        have it : I2 0 33 = nI K := (f2 33 (by decide) (by decide) (by decide) (by decide) (by decide) (by decide)).trans g3
        have o20 : I2 20 = I 20 := (f1 20 (by decide) (by decide) (by decide)).trans (kp 20 (by decide) (by decide) (by decide) (by decide) (by decide))
        have o29 : I2 0 29 = I 0 29 := (f2 29 (by decide) (by decide) (by decide) (by decide) (by decide) (by decide)).trans (g2 29 (by decide) (by decide) (by decide) (by decide))
        have o23 : ∀ x, x < 144 → I2 23 x = I 23 x := fun x hx => by rw [f1 23 (by decide) (by decide) (by decide)]; exact ki x hx
        have o24 : ∀ x, x < 6 → I2 24 x = I 24 x := fun x hx => by rw [f1 24 (by decide) (by decide) (by decide)]; exact ka x hx
        by_cases hlt : i < K
        · refine r_iload_n dX11_read_141 rfl ?_
          refine r_iconst (v := 3) dX11_read_142 rfl ?_
          refine r_icmp_ge 164 dX11_read_143 (by decide) (fun h143 => ?_) (fun h143 => absurd h143 (by decide))
          refine r_iload_n dX11_read_164 rfl ?_
          refine r_aload_n dX11_read_165 rfl ?_
          refine r_getV rfl rfl fl_11_264 dX11_read_166 it ?_
          refine r_icmp_ge 183 dX11_read_169 (by decide) (fun h169 => absurd h169 (fun z => absurd ((nI_leI (by omega) (by omega)).mp z) (by omega))) (fun h169 => ?_)
          refine r_aload_n dX11_read_172 rfl ?_
          refine r_iconst (v := 2) dX11_read_173 rfl ?_
          refine r_cVn (As := [_]) (c_goesOn α _ _ 2 (by decide)) lk_11_297 rfl rfl (by decide) (by decide) rfl rfl (Nat.le_of_ble_eq_true rfl) dX11_read_174 ?_
          refine r_sipush (v := (-1000)) dX11_read_177 rfl ?_
          refine r_iload_n dX11_read_180 rfl ?_
          refine r_isub dX11_read_181 ?_
          refine r_iret rfl dX11_read_182 ?_
          refine ⟨_, rfl, ⟨fun z => (by rw [hG] at z; cases z), fun _ => ?_⟩, ⟨fun j hj => ?_, ?_, ?_, fun x hx => ?_, fun x hx => ?_⟩, rfl⟩
          · rw [hG]
            rw [hA]
            exact ⟨fun _ => ⟨rfl, (stc.lf (kp_lf _ 2)).lf (go_lf _ _ 2 (fun x _ => by rw [f1 23 (by decide) (by decide) (by decide)]) (fun x _ => by rw [f1 24 (by decide) (by decide) (by decide)]))⟩, fun z => absurd hlt z⟩
          · rw [go_n _ _ _ (by decide) (by decide) (by decide) (by decide) (by decide) (by decide) (by decide) (by decide) (by decide) (by decide) (by decide) (by decide)]; exact f3 j hj
          · rw [go_n _ _ _ (by decide) (by decide) (by decide) (by decide) (by decide) (by decide) (by decide) (by decide) (by decide) (by decide) (by decide) (by decide)]; exact o20
          · rw [go_z _ _ _ (by decide) (by decide) (by decide) (by decide) (by decide) (by decide)]; exact o29
          · rw [go_n _ _ _ (by decide) (by decide) (by decide) (by decide) (by decide) (by decide) (by decide) (by decide) (by decide) (by decide) (by decide) (by decide)]; exact o23 x hx
          · rw [go_n _ _ _ (by decide) (by decide) (by decide) (by decide) (by decide) (by decide) (by decide) (by decide) (by decide) (by decide) (by decide) (by decide)]; exact o24 x hx
        · refine r_iload_n dX11_read_141 rfl ?_
          refine r_iconst (v := 3) dX11_read_142 rfl ?_
          refine r_icmp_ge 164 dX11_read_143 (by decide) (fun h143 => ?_) (fun h143 => absurd h143 (by decide))
          refine r_iload_n dX11_read_164 rfl ?_
          refine r_aload_n dX11_read_165 rfl ?_
          refine r_getV rfl rfl fl_11_264 dX11_read_166 it ?_
          refine r_icmp_ge 183 dX11_read_169 (by decide) (fun h169 => ?_) (fun h169 => absurd h169 (fun z => z ((nI_leI (by omega) (by omega)).mpr (by omega))))
          refine r_aload_n dX11_read_183 rfl ?_
          refine r_getV rfl rfl fl_11_264 dX11_read_184 it ?_
          refine r_iret rfl dX11_read_187 ?_
          refine ⟨_, rfl, ⟨fun z => (by rw [hG] at z; cases z), fun _ => ?_⟩, ⟨f3, o20, o29, o23, o24⟩, rfl⟩
          rw [hG]
          rw [hA]
          exact ⟨fun z => absurd z hlt, fun _ => ⟨rfl, f0⟩⟩
      | succ m ih =>
        intro x hx i si hA hi I2 f0 f1 f2 f3
        refine r_iload_n dX11_read_141 rfl ?_
        refine r_iconst (v := 3) dX11_read_142 rfl ?_
        refine r_icmp_ge 164 dX11_read_143 (by decide) (fun h143 => absurd h143 (fun z => absurd ((nI_leI (a := 3) (by omega) (by omega)).mp z) (by omega))) (fun h143 => ?_)
        refine r_aload_n dX11_read_146 rfl ?_
        refine r_getR rfl rfl fl_11_7 dX11_read_147 ?_
        refine r_iload_n dX11_read_150 rfl ?_
        refine r_aload_n dX11_read_151 rfl ?_
        refine r_getR rfl rfl fl_11_73 dX11_read_152 ?_
        refine r_iload_n dX11_read_155 rfl ?_
        refine r_ialdN rfl dX11_read_156 (by omega) (by omega) (Eq.trans (by rw [f1 22 (by decide) (by decide) (by decide)]) (kc x (by omega))) ?_
        refine r_iastN rfl dX11_read_157 (by omega) (by omega) ?_
        refine r_iinc (v := _ + 1) (lv' := [(3, _), (0, _), (2, _)]) dX11_read_158 rfl rfl (Nat.le_of_ble_eq_true rfl) rfl ?_
        rw [nI_1]
        refine r_goto (tgt := 141) dX11_read_161 (by decide) ?_
        exact r_keep [3, 0, 2] rfl (ih (x + 1) (by omega) i si hA hi _ f0.refus (fun a a0 a1 a2 => by rw [fd_up_cell a1]; exact f1 a a0 a1 a2) (fun j j1 j2 j3 j4 j5 j6 => by rw [fd_up_ne (by decide)]; exact f2 j j1 j2 j3 j4 j5 j6) (fun j hj => by
        by_cases q : j = x
        · rw [q, fd_up_same]
        · rw [fd_up_pl q]; exact f3 j (by omega)))
    -- the items are told
    have told : ∀ m i, i + m = K → ∀ si, apR (imW T b) (imA T b) (imB T b) m i si = apR (imW T b) (imA T b) (imB T b) K 0 s → ∀ I2 : fdI, mSt si I2 → doP (kpI (lyI I1 22 1 3 0) 2) I2 → Rn fd_SM α mX11_read 117 [(2, .int (nI i)), (0, .ref (α 0))] [] I2 L (fd_ip (fun v I' L' => rdE s T b v I' ∧ rdO I I' ∧ L' = L)) := by
      intro m
      induction m with
      | zero =>
        intro i hi si hA I2 f0 f1
        obtain rfl : i = K := by omega
        have it : I2 0 33 = nI i := (f1.2 33 (by decide) (by decide) (by decide) (by decide) (by decide) (by decide)).trans ((kp0 33).trans g3)
        refine r_iload_n dX11_read_117 rfl ?_
        refine r_aload_n dX11_read_118 rfl ?_
        refine r_getV rfl rfl fl_11_264 dX11_read_119 it ?_
        refine r_icmp_ge 139 dX11_read_122 (by decide) (fun h122 => ?_) (fun h122 => absurd h122 (not_not_intro (Int32.le_refl _)))
        refine r_iconst (v := 0) dX11_read_139 rfl ?_
        refine r_istore_n (lv' := [(3, _), (2, _), (0, _)]) dX11_read_140 (Nat.le_of_ble_eq_true rfl) rfl ?_
        exact r_keep [3, 0, 2] rfl (back 3 0 rfl i si hA.symm (Nat.le_refl _) _ f0 (fun a a0 a1 a2 => f1.1 a a0 (Or.inr a2)) (fun j j1 j2 j3 j4 j5 j6 => (f1.2 j j1 j2 j3 j4 j5 j6).trans (kp0 j)) (fun j hj => absurd hj (by omega)))
      | succ m ih =>
        intro i hi si hA I2 f0 f1
        have it : I2 0 33 = nI K := (f1.2 33 (by decide) (by decide) (by decide) (by decide) (by decide) (by decide)).trans ((kp0 33).trans g3)
        have rr : I2 21 = I1 21 := (f1.1 21 (by decide) (by decide)).trans kr
        obtain ⟨w1, w2, w3, w4⟩ := g4 i (by omega)
        by_cases hok : (apI si (imW T b i) (imA T b i) (imB T b i)).1 = true
        · rw [apR_go hok] at hA
          refine r_iload_n dX11_read_117 rfl ?_
          refine r_aload_n dX11_read_118 rfl ?_
          refine r_getV rfl rfl fl_11_264 dX11_read_119 it ?_
          refine r_icmp_ge 139 dX11_read_122 (by decide) (fun h122 => absurd h122 (fun z => absurd ((nI_leI (by omega) (by omega)).mp z) (by omega))) (fun h122 => ?_)
          refine r_aload_n dX11_read_125 rfl ?_
          refine r_iload_n dX11_read_126 rfl ?_
          refine r_cVp (As := [_]) (c_does (k := i) si α _ _ f0 (by omega) ((congrFun rr _).trans w1) w4 ((congrFun rr _).trans w2) ((congrFun rr _).trans w3)) lk_11_294 rfl rfl (by decide) (by decide) rfl rfl (Nat.le_of_ble_eq_true rfl) dX11_read_127 (fun v127 I127 L127 q127 => ?_)
          obtain ⟨rfl, st, dp, rfl⟩ := q127
          rw [show fd_b ((apI si (imW T b i) (imA T b i) (imB T b i)).1 = true) = 1 from if_pos hok]
          refine r_if_eq 139 dX11_read_130 (by decide) (fun h130 => absurd h130 (by decide)) (fun h130 => ?_)
          refine r_iinc (v := _ + 1) (lv' := [(2, _), (0, _)]) dX11_read_133 rfl rfl (Nat.le_of_ble_eq_true rfl) rfl ?_
          rw [nI_1]
          refine r_goto (tgt := 117) dX11_read_136 (by decide) ?_
          exact r_keep [2, 0] rfl (ih (i + 1) (by omega) _ hA _ st (f1.trans dp))
        · rw [apR_stop hok] at hA
          refine r_iload_n dX11_read_117 rfl ?_
          refine r_aload_n dX11_read_118 rfl ?_
          refine r_getV rfl rfl fl_11_264 dX11_read_119 it ?_
          refine r_icmp_ge 139 dX11_read_122 (by decide) (fun h122 => absurd h122 (fun z => absurd ((nI_leI (by omega) (by omega)).mp z) (by omega))) (fun h122 => ?_)
          refine r_aload_n dX11_read_125 rfl ?_
          refine r_iload_n dX11_read_126 rfl ?_
          refine r_cVp (As := [_]) (c_does (k := i) si α _ _ f0 (by omega) ((congrFun rr _).trans w1) w4 ((congrFun rr _).trans w2) ((congrFun rr _).trans w3)) lk_11_294 rfl rfl (by decide) (by decide) rfl rfl (Nat.le_of_ble_eq_true rfl) dX11_read_127 (fun v127 I127 L127 q127 => ?_)
          obtain ⟨rfl, st, dp, rfl⟩ := q127
          rw [show fd_b ((apI si (imW T b i) (imA T b i) (imB T b i)).1 = true) = 0 from if_neg hok]
          rw [apI_no hok] at st
          have f1 := f1.trans dp
          refine r_if_eq 139 dX11_read_130 (by decide) (fun h130 => ?_) (fun h130 => absurd h130 (by decide))
          refine r_iconst (v := 0) dX11_read_139 rfl ?_
          refine r_istore_n (lv' := [(3, _), (2, _), (0, _)]) dX11_read_140 (Nat.le_of_ble_eq_true rfl) rfl ?_
          exact r_keep [3, 0, 2] rfl (back 3 0 rfl i si hA.symm (by omega) _ st (fun a a0 a1 a2 => f1.1 a a0 (Or.inr a2)) (fun j j1 j2 j3 j4 j5 j6 => (f1.2 j j1 j2 j3 j4 j5 j6).trans (kp0 j)) (fun j hj => absurd hj (by omega)))
    -- the refusals are put aside
    have aside : ∀ m x, m + x = 3 → Rn fd_SM α mX11_read 87 [(2, .int (nI x)), (0, .ref (α 0))] [] (lyI I1 22 1 x 0) L (fd_ip (fun v I' L' => rdE s T b v I' ∧ rdO I I' ∧ L' = L)) := by
      intro m
      induction m with
      | zero =>
        intro x hx
        obtain rfl : x = 3 := by omega
        refine r_iload_n dX11_read_87 rfl ?_
        refine r_iconst (v := 3) dX11_read_88 rfl ?_
        refine r_icmp_ge 110 dX11_read_89 (by decide) (fun h89 => ?_) (fun h89 => absurd h89 (by decide))
        refine r_aload_n dX11_read_110 rfl ?_
        refine r_iconst (v := 2) dX11_read_111 rfl ?_
        refine r_cVn (As := [_]) (c_keeps α _ _ 2 (by decide)) lk_11_291 rfl rfl (by decide) (by decide) rfl rfl (Nat.le_of_ble_eq_true rfl) dX11_read_112 ?_
        refine r_iconst (v := 0) dX11_read_115 rfl ?_
        refine r_istore_n (lv' := [(2, _), (0, _)]) dX11_read_116 (Nat.le_of_ble_eq_true rfl) rfl ?_
        exact r_keep [2, 0] rfl (told K 0 (by omega) s rfl _ stk doP.rfl')
      | succ m ih =>
        intro x hx
        refine r_iload_n dX11_read_87 rfl ?_
        refine r_iconst (v := 3) dX11_read_88 rfl ?_
        refine r_icmp_ge 110 dX11_read_89 (by decide) (fun h89 => absurd h89 (fun z => absurd ((nI_leI (a := 3) (by omega) (by omega)).mp z) (by omega))) (fun h89 => ?_)
        refine r_aload_n dX11_read_92 rfl ?_
        refine r_getR rfl rfl fl_11_73 dX11_read_93 ?_
        refine r_iload_n dX11_read_96 rfl ?_
        refine r_aload_n dX11_read_97 rfl ?_
        refine r_getR rfl rfl fl_11_7 dX11_read_98 ?_
        refine r_iload_n dX11_read_101 rfl ?_
        refine r_ialdN rfl dX11_read_102 (by omega) (by omega) (Eq.trans (by rw [lyI_ne (by decide)]) rfl) ?_
        refine r_iastN rfl dX11_read_103 (by omega) (by omega) ?_
        refine r_iinc (v := _ + 1) (lv' := [(2, _), (0, _)]) dX11_read_104 rfl rfl (Nat.le_of_ble_eq_true rfl) rfl ?_
        rw [nI_1, cp3_1]
        refine r_goto (tgt := 87) dX11_read_107 (by decide) ?_
        exact r_keep [2, 0] rfl (ih (x + 1) (by omega))
    have go85 := aside 3 0 rfl
    rw [lyI_0] at go85
    refine r_aload_n dX11_read_70 rfl ?_
    refine r_getV rfl rfl fl_11_254 dX11_read_71 gw ?_
    refine r_if_eq 85 dX11_read_74 (by decide) (fun h74 => ?_) (fun h74 => absurd h74 (by decide))
    refine r_iconst (v := 0) dX11_read_85 rfl ?_
    refine r_istore_n (lv' := [(2, _), (0, _)]) dX11_read_86 (Nat.le_of_ble_eq_true rfl) rfl ?_
    exact r_keep [2, 0] rfl go85
  -- the text is taken apart
  have T2 : ∀ J : fdI, (∀ a, a ≠ 0 → a ≠ 21 → J a = I a) → J 20 = T := fun J g => (g 20 (by decide) (by decide)).trans hT
  have at70 : ∀ I1 : fdI, Rn fd_SM α mX11_read 70 [(0, .ref (α 0))] [] I1 L (fd_ip (fun v I' L' => rdE s T b v I' ∧ rdO I I' ∧ L' = L)) → Rn fd_SM α mX11_read 21 [(1, .int 0), (0, .ref (α 0))] [] I1 L (fd_ip (fun v I' L' => rdE s T b v I' ∧ rdO I I' ∧ L' = L)) := by
    intro I1 K
    refine r_iload_n dX11_read_21 rfl ?_
    refine r_if_eq 70 dX11_read_22 (by decide) (fun h22 => ?_) (fun h22 => absurd h22 (by decide))
    exact r_keep [0] rfl K
  have loop : ∀ f k, f + k = 60 → rdG T b f k = rdG T b 60 0 → psF T b k ≤ b → 3 * k ≤ psF T b k → (k = 0 ∨ psF T b k < b) → ∀ I1 : fdI, psP I I1 b k → I1 0 30 = nI (psF T b k) → I1 0 32 = 0 → Rn fd_SM α mX11_read 21 [(1, .int 1), (0, .ref (α 0))] [] I1 L (fd_ip (fun v I' L' => rdE s T b v I' ∧ rdO I I' ∧ L' = L)) := by
    intro f
    induction f with
    | zero =>
      intro k hk hg h1 h2 h3
      omega
    | succ f ih =>
      intro k hk hg h1 h2 h3 I1 ⟨g1, g2, g3, g4⟩ gp gw
      have b1 : I1 0 29 = nI b := (g2 29 (by decide) (by decide) (by decide) (by decide)).trans hb
      have hk3 : 3 * k + 2 < 150 := by omega
      have hg2 : (if (itR T b k (psF T b k)).1 = true then (if psF T b (k + 1) < b then rdG T b f (k + 1) else (true, k + 1)) else (false, (itR T b k (psF T b k)).2)) = rdG T b 60 0 := hg
      cases hR : (itR T b k (psF T b k)).1 with
      | false =>
        rw [hR, if_neg (by decide)] at hg2
        refine r_iload_n dX11_read_21 rfl ?_
        refine r_if_eq 70 dX11_read_22 (by decide) (fun h22 => absurd h22 (by decide)) (fun h22 => ?_)
        refine r_aload_n dX11_read_25 rfl ?_
        refine r_cVq (As := []) (c_readItem α _ _ b1 hb150 gp h1 g3 hk3) lk_11_288 rfl rfl (by decide) (by decide) rfl rfl (Nat.le_of_ble_eq_true rfl) dX11_read_26 (fun I26 L26 q26 => ?_)
        obtain ⟨rfl, r1, r2, r3, r4, r5⟩ := q26
        rw [T2 _ g1] at r4 r5
        obtain ⟨r6, r7⟩ := r5 hR
        have gw2 := r6
        refine r_aload_n dX11_read_29 rfl ?_
        refine r_getV rfl rfl fl_11_254 dX11_read_30 r6 ?_
        refine r_if_ne 40 dX11_read_33 (by decide) (fun h33 => ?_) (fun h33 => absurd h33 (by decide))
        refine r_iconst (v := 0) dX11_read_40 rfl ?_
        refine r_istore_n (lv' := [(1, _), (0, _)]) dX11_read_41 (Nat.le_of_ble_eq_true rfl) rfl ?_
        refine r_iload_n dX11_read_42 rfl ?_
        refine r_if_eq 21 dX11_read_43 (by decide) (fun h43 => ?_) (fun h43 => absurd h43 (by decide))
        refine r_keep [1, 0] rfl (at70 _ (bad (by rw [← hg2]) 0 _ (fun a a0 a1 => (r1 a a0 a1).trans (g1 a a0 a1)) (fun j j0 j1 j2 j3 => (r2 j j0 j1 j2 j3).trans (g2 j j0 j1 j2 j3)) r6 (by rw [← hg2]; exact r7)))
      | true =>
        rw [hR, if_pos rfl] at hg2
        obtain ⟨t1, t2, t3⟩ := itR_ok h1 hR
        have hs := sk_le (T := T) t2
        have p1 : psF T b (k + 1) = sk T b (itR T b k (psF T b k)).2 := rfl
        have rows : ∀ J M : fdI, J 21 = M 21 → (∀ x, x < 3 * k → M 21 x = I1 21 x) → M 21 (3 * k) = itW T b (psF T b k) → M 21 (3 * k + 1) = T (itA T b (psF T b k)) - 48 → M 21 (3 * k + 2) = (if itW T b (psF T b k) = 0 then 0 else T (itB T b (psF T b k)) - 48) → ∀ i, i < k + 1 → J 21 (3 * i) = imW (I 20) b i ∧ J 21 (3 * i + 1) = imA (I 20) b i ∧ J 21 (3 * i + 2) = imB (I 20) b i ∧ dayP (imW (I 20) b i) 7 := by
          intro J M e m1 m2 m3 m4 i hi
          rw [e]
          rcases Nat.lt_or_ge i k with q | q
          · rw [m1 _ (by omega), m1 _ (by omega), m1 _ (by omega)]
            exact g4 i q
          · obtain rfl : i = k := by omega
            rw [hT]
            exact ⟨m2, m3, m4, (wdI_P _).resolve_left t3⟩
        by_cases hmore : psF T b (k + 1) < b
        · rw [if_pos hmore] at hg2
          refine r_iload_n dX11_read_21 rfl ?_
          refine r_if_eq 70 dX11_read_22 (by decide) (fun h22 => absurd h22 (by decide)) (fun h22 => ?_)
          refine r_aload_n dX11_read_25 rfl ?_
          refine r_cVq (As := []) (c_readItem α _ _ b1 hb150 gp h1 g3 hk3) lk_11_288 rfl rfl (by decide) (by decide) rfl rfl (Nat.le_of_ble_eq_true rfl) dX11_read_26 (fun I26 L26 q26 => ?_)
          obtain ⟨rfl, r1, r2, r3, r4, r5⟩ := q26
          rw [T2 _ g1] at r4 r5
          obtain ⟨r6, r7, r8, r9, r10, r11⟩ := r4 hR
          have b2 := (r2 29 (by decide) (by decide) (by decide) (by decide)).trans b1
          have n1 := fun a a0 a1 => (r1 a a0 a1).trans (g1 a a0 a1)
          refine r_aload_n dX11_read_29 rfl ?_
          refine r_getV rfl rfl fl_11_254 dX11_read_30 r6 ?_
          refine r_if_ne 40 dX11_read_33 (by decide) (fun h33 => absurd h33 (not_not_intro rfl)) (fun h33 => ?_)
          refine r_iconst (v := 1) dX11_read_36 rfl ?_
          refine r_goto (tgt := 41) dX11_read_37 (by decide) ?_
          refine r_istore_n (lv' := [(1, _), (0, _)]) dX11_read_41 (Nat.le_of_ble_eq_true rfl) rfl ?_
          refine r_iload_n dX11_read_42 rfl ?_
          refine r_if_eq 21 dX11_read_43 (by decide) (fun h43 => absurd h43 (by decide)) (fun h43 => ?_)
          refine r_aload_n dX11_read_46 rfl ?_
          refine r_cVq (As := []) (c_skips α _ _ b2 hb150 r7 t2) lk_11_227 rfl rfl (by decide) (by decide) rfl rfl (Nat.le_of_ble_eq_true rfl) dX11_read_47 (fun I47 L47 q47 => ?_)
          obtain ⟨rfl, u1, u2, u3, u4⟩ := q47
          rw [T2 _ n1, ← p1] at u3
          refine r_aload_n dX11_read_50 rfl ?_
          refine r_getV rfl rfl fl_11_221 dX11_read_51 u3 ?_
          refine r_aload_n dX11_read_54 rfl ?_
          refine r_getV rfl rfl fl_11_218 dX11_read_55 ((u2 29 (by decide) (by decide)).trans b2) ?_
          refine r_icmp_ge 65 dX11_read_58 (by decide) (fun h58 => absurd h58 (fun z => absurd ((nI_leI (by omega) (by omega)).mp z) (by omega))) (fun h58 => ?_)
          refine r_iconst (v := 1) dX11_read_61 rfl ?_
          refine r_goto (tgt := 66) dX11_read_62 (by decide) ?_
          refine r_istore_n (lv' := [(1, _), (0, _)]) dX11_read_66 (Nat.le_of_ble_eq_true rfl) rfl ?_
          refine r_goto (tgt := 21) dX11_read_67 (by decide) ?_
          refine r_keep [1, 0] rfl (ih (k + 1) (by omega) hg2 (by omega) (by omega) (Or.inr hmore) _ ⟨fun a a0 a1 => (by rw [u1 a a0]; exact n1 a a0 a1), fun j j0 j1 j2 j3 => (by rw [u2 j j0 j1]; exact (r2 j j0 j1 j2 j3).trans (g2 j j0 j1 j2 j3)), (u2 33 (by decide) (by decide)).trans r8, ?_⟩ u3 ((u2 32 (by decide) (by decide)).trans r6))
          exact rows _ _ (u1 21 (by decide)) r3 r9 r10 r11
        · rw [if_neg hmore] at hg2
          refine r_iload_n dX11_read_21 rfl ?_
          refine r_if_eq 70 dX11_read_22 (by decide) (fun h22 => absurd h22 (by decide)) (fun h22 => ?_)
          refine r_aload_n dX11_read_25 rfl ?_
          refine r_cVq (As := []) (c_readItem α _ _ b1 hb150 gp h1 g3 hk3) lk_11_288 rfl rfl (by decide) (by decide) rfl rfl (Nat.le_of_ble_eq_true rfl) dX11_read_26 (fun I26 L26 q26 => ?_)
          obtain ⟨rfl, r1, r2, r3, r4, r5⟩ := q26
          rw [T2 _ g1] at r4 r5
          obtain ⟨r6, r7, r8, r9, r10, r11⟩ := r4 hR
          have b2 := (r2 29 (by decide) (by decide) (by decide) (by decide)).trans b1
          have n1 := fun a a0 a1 => (r1 a a0 a1).trans (g1 a a0 a1)
          refine r_aload_n dX11_read_29 rfl ?_
          refine r_getV rfl rfl fl_11_254 dX11_read_30 r6 ?_
          refine r_if_ne 40 dX11_read_33 (by decide) (fun h33 => absurd h33 (not_not_intro rfl)) (fun h33 => ?_)
          refine r_iconst (v := 1) dX11_read_36 rfl ?_
          refine r_goto (tgt := 41) dX11_read_37 (by decide) ?_
          refine r_istore_n (lv' := [(1, _), (0, _)]) dX11_read_41 (Nat.le_of_ble_eq_true rfl) rfl ?_
          refine r_iload_n dX11_read_42 rfl ?_
          refine r_if_eq 21 dX11_read_43 (by decide) (fun h43 => absurd h43 (by decide)) (fun h43 => ?_)
          refine r_aload_n dX11_read_46 rfl ?_
          refine r_cVq (As := []) (c_skips α _ _ b2 hb150 r7 t2) lk_11_227 rfl rfl (by decide) (by decide) rfl rfl (Nat.le_of_ble_eq_true rfl) dX11_read_47 (fun I47 L47 q47 => ?_)
          obtain ⟨rfl, u1, u2, u3, u4⟩ := q47
          rw [T2 _ n1, ← p1] at u3
          refine r_aload_n dX11_read_50 rfl ?_
          refine r_getV rfl rfl fl_11_221 dX11_read_51 u3 ?_
          refine r_aload_n dX11_read_54 rfl ?_
          refine r_getV rfl rfl fl_11_218 dX11_read_55 ((u2 29 (by decide) (by decide)).trans b2) ?_
          refine r_icmp_ge 65 dX11_read_58 (by decide) (fun h58 => ?_) (fun h58 => absurd h58 (not_not_intro ((nI_leI (by omega) (by omega)).mpr (by omega))))
          refine r_iconst (v := 0) dX11_read_65 rfl ?_
          refine r_istore_n (lv' := [(1, _), (0, _)]) dX11_read_66 (Nat.le_of_ble_eq_true rfl) rfl ?_
          refine r_goto (tgt := 21) dX11_read_67 (by decide) ?_
          refine r_keep [1, 0] rfl (at70 _ (good (k + 1) hg2.symm (by omega) _ ⟨fun a a0 a1 => (by rw [u1 a a0]; exact n1 a a0 a1), fun j j0 j1 j2 j3 => (by rw [u2 j j0 j1]; exact (r2 j j0 j1 j2 j3).trans (g2 j j0 j1 j2 j3)), (u2 33 (by decide) (by decide)).trans r8, ?_⟩ ((u2 32 (by decide) (by decide)).trans r6)))
          exact rows _ _ (u1 21 (by decide)) r3 r9 r10 r11
  have g0 : ∀ I1 : fdI, (∀ a, a ≠ 0 → I1 a = I a) → (∀ j, j ≠ 30 → j ≠ 31 → j ≠ 32 → j ≠ 33 → I1 0 j = I 0 j) → I1 0 33 = 0 → I1 0 32 = 0 → I1 0 30 = nI (sk T b 0) → Rn fd_SM α mX11_read 21 [(1, .int 1), (0, .ref (α 0))] [] I1 L (fd_ip (fun v I' L' => rdE s T b v I' ∧ rdO I I' ∧ L' = L)) := fun I1 g1 g2 g3 g4 g5 =>
    loop 60 0 rfl rfl (sk_le (Nat.zero_le _)).2 (Nat.zero_le _) (Or.inl rfl) I1 ⟨fun a a0 _ => g1 a a0, g2, g3, fun i hi => absurd hi (by omega)⟩ g5 g4
  refine r_aload_n dX11_read_0 rfl ?_
  refine r_iconst (v := 0) dX11_read_1 rfl ?_
  refine r_putI rfl rfl fl_11_221 fw_11_30 dX11_read_2 ?_
  refine r_aload_n dX11_read_5 rfl ?_
  refine r_iconst (v := 0) dX11_read_6 rfl ?_
  refine r_putI rfl rfl fl_11_264 fw_11_33 dX11_read_7 ?_
  refine r_aload_n dX11_read_10 rfl ?_
  refine r_iconst (v := 0) dX11_read_11 rfl ?_
  refine r_putZ rfl rfl fl_11_254 fw_11_32 ((Or.inl rfl)) dX11_read_12 ?_
  refine r_aload_n dX11_read_15 rfl ?_
  refine r_cVq (As := []) (c_skips (p := 0) α _ _ (by rw [fd_up_pl (by decide), fd_up_pl (by decide), fd_up_pl (by decide)]; exact hb) hb150 (by rw [fd_up_pl (by decide), fd_up_pl (by decide), fd_up_same]; rfl) (Nat.zero_le _)) lk_11_227 rfl rfl (by decide) (by decide) rfl rfl (Nat.le_of_ble_eq_true rfl) dX11_read_16 (fun I16 L16 q16 => ?_)
  obtain ⟨rfl, u1, u2, u3, u4⟩ := q16
  have n1 : ∀ a, a ≠ 0 → I16 a = I a := fun a a0 => by rw [u1 a a0, fd_up_cell a0, fd_up_cell a0, fd_up_cell a0]
  rw [fd_up_cell (by decide), fd_up_cell (by decide), fd_up_cell (by decide), hT] at u3
  refine r_iconst (v := 1) dX11_read_19 rfl ?_
  refine r_istore_n (lv' := [(1, _), (0, _)]) dX11_read_20 (Nat.le_of_ble_eq_true rfl) rfl ?_
  refine r_keep [1, 0] rfl (g0 _ n1 (fun j j0 j1 j2 j3 => by rw [u2 j j0 j1, fd_up_pl j2, fd_up_pl j3, fd_up_pl j0]) ((u2 33 (by decide) (by decide)).trans (by rw [fd_up_pl (by decide), fd_up_same])) ((u2 32 (by decide) (by decide)).trans fd_up_same) u3)
