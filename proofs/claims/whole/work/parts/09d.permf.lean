/-! the orders by ranks: what is so -/
theorem gd7 {r : Nat} (hr : r < 5040) : gdR 7 r = true := by
  by_cases h0 : r < 360
  · have h := alN_at gd7_0 (r - 0) (by omega)
    rwa [show 0 + (r - 0) = r by omega] at h
  by_cases h1 : r < 720
  · have h := alN_at gd7_1 (r - 360) (by omega)
    rwa [show 360 + (r - 360) = r by omega] at h
  by_cases h2 : r < 1080
  · have h := alN_at gd7_2 (r - 720) (by omega)
    rwa [show 720 + (r - 720) = r by omega] at h
  by_cases h3 : r < 1440
  · have h := alN_at gd7_3 (r - 1080) (by omega)
    rwa [show 1080 + (r - 1080) = r by omega] at h
  by_cases h4 : r < 1800
  · have h := alN_at gd7_4 (r - 1440) (by omega)
    rwa [show 1440 + (r - 1440) = r by omega] at h
  by_cases h5 : r < 2160
  · have h := alN_at gd7_5 (r - 1800) (by omega)
    rwa [show 1800 + (r - 1800) = r by omega] at h
  by_cases h6 : r < 2520
  · have h := alN_at gd7_6 (r - 2160) (by omega)
    rwa [show 2160 + (r - 2160) = r by omega] at h
  by_cases h7 : r < 2880
  · have h := alN_at gd7_7 (r - 2520) (by omega)
    rwa [show 2520 + (r - 2520) = r by omega] at h
  by_cases h8 : r < 3240
  · have h := alN_at gd7_8 (r - 2880) (by omega)
    rwa [show 2880 + (r - 2880) = r by omega] at h
  by_cases h9 : r < 3600
  · have h := alN_at gd7_9 (r - 3240) (by omega)
    rwa [show 3240 + (r - 3240) = r by omega] at h
  by_cases h10 : r < 3960
  · have h := alN_at gd7_10 (r - 3600) (by omega)
    rwa [show 3600 + (r - 3600) = r by omega] at h
  by_cases h11 : r < 4320
  · have h := alN_at gd7_11 (r - 3960) (by omega)
    rwa [show 3960 + (r - 3960) = r by omega] at h
  by_cases h12 : r < 4680
  · have h := alN_at gd7_12 (r - 4320) (by omega)
    rwa [show 4320 + (r - 4320) = r by omega] at h
  by_cases h13 : r < 5040
  · have h := alN_at gd7_13 (r - 4680) (by omega)
    rwa [show 4680 + (r - 4680) = r by omega] at h
  omega
theorem gdA {n r : Nat} (h : 1 ≤ n ∧ n ≤ 7) (hr : r < fac n) : gdR n r = true := by
  match n, h, hr with
  | 1, _, hr => exact alN_at gd1 r hr
  | 2, _, hr => exact alN_at gd2 r hr
  | 3, _, hr => exact alN_at gd3 r hr
  | 4, _, hr => exact alN_at gd4 r hr
  | 5, _, hr => exact alN_at gd5 r hr
  | 6, _, hr => exact alN_at gd6 r hr
  | 7, _, hr => exact gd7 hr
  | 0, h, _ => exact absurd h.1 (by decide)
  | k + 8, h, _ => exact absurd h.2 (by omega)
theorem rwP_length {m left size met : Nat} : (rwP m left size met).length = m := by
  induction m generalizing left size met with
  | zero => rfl
  | succ m ih => show (_ :: rwP m _ _ _).length = _; rw [List.length_cons, ih]
theorem gtL_eq {l : List Nat} {k : Nat} : gtL l k = (l[k]?).getD 0 := by
  induction l generalizing k with
  | nil => simp [gtL]
  | cons a l ih =>
    cases k with
    | zero => simp [gtL]
    | succ k => simp [gtL, ih]
theorem gtL_mem {l : List Nat} {k : Nat} (h : k < l.length) : gtL l k ∈ l := by
  rw [gtL_eq, List.getElem?_eq_getElem h]
  exact List.getElem_mem h
theorem nodupL_inj {l : List Nat} (h : nodupL l = true) : ∀ i j, i < l.length → j < l.length → gtL l i = gtL l j → i = j := by
  induction l with
  | nil => intro i j hi; cases hi
  | cons a l ih =>
    unfold nodupL at h
    rw [Bool.and_eq_true, List.all_eq_true] at h
    have hne : ∀ b ∈ l, a ≠ b := by
      intro b hb q
      have := h.1 b hb
      subst q
      simp at this
    intro i j hi hj e
    cases i with
    | zero =>
      cases j with
      | zero => rfl
      | succ j =>
        have hj' : j < l.length := by simpa using hj
        exact absurd e (hne _ (gtL_mem hj'))
    | succ i =>
      cases j with
      | zero =>
        have hi' : i < l.length := by simpa using hi
        exact absurd e.symm (hne _ (gtL_mem hi'))
      | succ j => rw [ih h.2 i j (by simpa using hi) (by simpa using hj) e]
theorem eqP_at {k : Nat} {f g : Nat → Nat} (h : eqP k f g = true) : ∀ i, i < k → f i = g i := by
  induction k with
  | zero => intro i hi; omega
  | succ k ih =>
    unfold eqP at h
    rw [Bool.and_eq_true] at h
    intro i hi
    by_cases q : i = k
    · subst q; exact Nat.eq_of_beq_eq_true h.1
    · exact ih h.2 i (by omega)
theorem gdB {n r : Nat} (h : 1 ≤ n ∧ n ≤ 7) (hr : r < fac n) : rwGd n r (fac n) 0 = true ∧ isP (prm n r) n ∧ rkF (prm n r) n n = r ∧ (r + 1 < fac n → (∀ k, k < n → nxP (prm n r) n k = prm n (r + 1) k) ∧ nxA (prm n r) (n - 1) ≠ 0) := by
  have hg := gdA h hr
  unfold gdR at hg
  simp only [Bool.and_eq_true, Bool.or_eq_true] at hg
  obtain ⟨h1, h2, h3, h4, h5⟩ := hg
  have hl : (prL n r).length = n := rwP_length
  refine ⟨h1, ⟨fun k hk => ?_, fun i j hi hj e => nodupL_inj h3 i j (by omega) (by omega) e⟩, Nat.eq_of_beq_eq_true h4, fun hr1 => ?_⟩
  · have := List.all_eq_true.mp h2 _ (gtL_mem (k := k) (by omega))
    exact Nat.le_of_ble_eq_true this
  · rcases h5 with h5 | ⟨h5, h6⟩
    · have := Nat.eq_of_beq_eq_true h5
      omega
    · exact ⟨eqP_at h5, fun q => by rw [q] at h6; cases h6⟩
theorem prm_P {n r : Nat} (h : 1 ≤ n ∧ n ≤ 7) (hr : r < fac n) : isP (prm n r) n := (gdB h hr).2.1
theorem prm_rank {n r : Nat} (h : 1 ≤ n ∧ n ≤ 7) (hr : r < fac n) : rkF (prm n r) n n = r := (gdB h hr).2.2.1
theorem prm_next {n r : Nat} (h : 1 ≤ n ∧ n ≤ 7) (hr : r + 1 < fac n) : ∀ k, k < n → nxP (prm n r) n k = prm n (r + 1) k := ((gdB h (by omega)).2.2.2 hr).1
theorem prm_more {n r : Nat} (h : 1 ≤ n ∧ n ≤ 7) (hr : r + 1 < fac n) : nxA (prm n r) (n - 1) ≠ 0 := ((gdB h (by omega)).2.2.2 hr).2
theorem prm_0 {n : Nat} (h : 1 ≤ n ∧ n ≤ 7) : ∀ k, k < n → prm n 0 k = k := by
  have a : ∀ n, n < 8 → 1 ≤ n → eqP n (prm n 0) id = true := by decide +kernel
  exact eqP_at (a n (by omega) h.1)
theorem isP_sur {p : Nat → Nat} {n : Nat} (h : isP p n) : ∀ d, d < n → ∃ k, k < n ∧ p k = d := by
  -- by counting: the first n values are n different ones under n
  have aux : ∀ m : Nat, ∀ q : Nat → Nat, (∀ k, k < m → q k < m) → (∀ i j, i < m → j < m → q i = q j → i = j) → ∀ d, d < m → ∃ k, k < m ∧ q k = d := by
    intro m
    induction m with
    | zero => intro q _ _ d hd; omega
    | succ m ih =>
      intro q h1 h2 d hd
      by_cases e : q m = d
      · exact ⟨m, by omega, e⟩
      · -- put what q m is into the place of the last value
        have hm := h1 m (by omega)
        obtain ⟨k, hk, ek⟩ := ih (fun k => if q k = m then q m else q k) (fun k hk => by
          show (if q k = m then q m else q k) < m
          have a := h1 k (by omega)
          split
          · next e1 =>
            have : q m ≠ m := fun z => by
              have := h2 k m (by omega) (by omega) (by rw [e1, z])
              omega
            omega
          · next e1 => omega) (fun i j hi hj e2 => by
          have e3 : (if q i = m then q m else q i) = (if q j = m then q m else q j) := e2
          by_cases a : q i = m
          · by_cases b : q j = m
            · exact h2 i j (by omega) (by omega) (by rw [a, b])
            · rw [if_pos a, if_neg b] at e3
              have := h2 m j (by omega) (by omega) e3
              omega
          · by_cases b : q j = m
            · rw [if_neg a, if_pos b] at e3
              have := h2 i m (by omega) (by omega) e3
              omega
            · rw [if_neg a, if_neg b] at e3
              exact h2 i j (by omega) (by omega) e3) (if d = m then q m else d) (by
          split
          · next e1 => 
            have : q m ≠ m := fun z => e (by rw [z, e1])
            omega
          · omega)
        have ek : (if q k = m then q m else q k) = (if d = m then q m else d) := ek
        refine ⟨k, by omega, ?_⟩
        by_cases a : q k = m
        · by_cases b : d = m
          · rw [a, b]
          · rw [if_pos a, if_neg b] at ek
            exact absurd ek e
        · by_cases b : d = m
          · rw [if_neg a, if_pos b] at ek
            have := h2 k m (by omega) (by omega) ek
            omega
          · rw [if_neg a, if_neg b] at ek
            exact ek
  exact aux n p h.1 h.2
