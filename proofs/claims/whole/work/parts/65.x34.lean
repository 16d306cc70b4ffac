/-! the text: tokens; the class's words and the model's -/
def mtB (T : Nat → Int32) (s m w : Nat) : Bool := decide (m = fd_len.getD w 0) && anB (fun i => decide (T (s + i) = wdC w i)) (fd_len.getD w 0)
/-- the word's number; 10: none -/
def wdT (T : Nat → Int32) (s m : Nat) : Nat → Nat
  | 0 => 10
  | w + 1 => if mtB T s m w then w else wdT T s m w
def wcN (t : Nat → Nat) : Nat → Nat
  | 0 => 0
  | m + 1 => wcN t m * 256 + t m
def cdN (w : Nat) : Nat := [1818846821, 6578553, 474147546227, 32762566252455283, 1852798053, 418363302244, 24948].getD w 0
theorem wcN_lt {t : Nat → Nat} : ∀ m, (∀ i, i < m → t i ≤ 122) → wcN t m < 128 * 256 ^ (m - 1) := by
  intro m
  induction m with
  | zero => intro _; show (0 : Nat) < 128 * 256 ^ (0 - 1); decide
  | succ m ih =>
    intro h
    have h1 := ih (fun i hi => h i (by omega))
    have h2 := h m (by omega)
    show wcN t m * 256 + t m < 128 * 256 ^ (m + 1 - 1)
    rw [Nat.add_sub_cancel]
    cases m with
    | zero =>
      have : wcN t 0 = 0 := rfl
      omega
    | succ m =>
      rw [Nat.add_sub_cancel] at h1
      rw [Nat.pow_succ]
      omega
theorem wcN_63 {t : Nat → Nat} {m : Nat} (hm : m ≤ 8) (h : ∀ i, i < m → t i ≤ 122) : wcN t m < 2 ^ 63 := by
  have h1 := wcN_lt m h
  have h2 : (256 : Nat) ^ (m - 1) ≤ 256 ^ 7 := Nat.pow_le_pow_right (by omega) (by omega)
  have h3 : 128 * (256 : Nat) ^ 7 = 2 ^ 63 := by decide
  omega
theorem wcL_N {T : Nat → Int32} {s : Nat} {t : Nat → Nat} : ∀ m, m ≤ 8 → (∀ i, i < m → T (s + i) = nI (t i) ∧ t i ≤ 122) → wcL T s m = lN (wcN t m) := by
  intro m
  induction m with
  | zero => intro _ _; rfl
  | succ m ih =>
    intro hm h
    have h1 := ih (by omega) (fun i hi => h i (by omega))
    obtain ⟨h2, h3⟩ := h m (by omega)
    show (if 7 < m then -1 else wcL T s m * 256 + (T (s + m)).toInt64) = _
    rw [if_neg (by omega), h1, h2, nI_l (by omega), show (256 : Int64) = lN 256 from rfl, lN_mul, lN_add]
    rfl
theorem wcL_9 {T : Nat → Int32} {s m : Nat} (hm : 8 < m) : wcL T s m = -1 := by
  obtain ⟨k, rfl⟩ : ∃ k, m = k + 1 := ⟨m - 1, by omega⟩
  exact if_pos (by omega)
theorem lN_63 {a b : Nat} (ha : a < 2 ^ 63) (hb : b < 2 ^ 63) : lN a = lN b ↔ a = b := by
  rw [← Int64.toInt_inj, pk_lT ha, pk_lT hb]
  omega
theorem wdC_nI {i k : Nat} (q : Nat) (h : wdC i k = nI q) {x : Int32} {t : Nat} (hx : x = nI t) (ht : t ≤ 122) (hq : q ≤ 122) : x = wdC i k ↔ t = q := by
  rw [hx, h]
  exact nI_eq (by omega) (by omega)
theorem mt_N {T : Nat → Int32} {s m : Nat} {t : Nat → Nat} (hm : m ≤ 8) (h : ∀ i, i < m → T (s + i) = nI (t i) ∧ 97 ≤ t i ∧ t i ≤ 122) (w : Nat) (hw : w < 7) : mtB T s m w = decide (wcN t m = cdN w) := by
  have hl := wdL_ok w hw
  rw [Bool.eq_iff_iff, decide_eq_true_eq]
  unfold mtB
  rw [Bool.and_eq_true, decide_eq_true_eq, anB_iff]
  have hall : m = fd_len.getD w 0 → ((∀ i, i < fd_len.getD w 0 → decide (T (s + i) = wdC w i) = true) ↔ ∀ i, i < m → T (s + i) = wdC w i) := by
    intro e
    rw [← e]
    exact ⟨fun z i hi => of_decide_eq_true (z i hi), fun z i hi => decide_eq_true (z i hi)⟩
  have hne : ¬ m = fd_len.getD w 0 → ¬ wcN t m = cdN w := by
    intro hn hc
    have b0 := h 0
    have b1 := h 1
    have b2 := h 2
    have b3 := h 3
    have b4 := h 4
    have b5 := h 5
    have b6 := h 6
    have b7 := h 7
    have l0 : fd_len.getD 0 0 = 4 := rfl
    have l1 : fd_len.getD 1 0 = 3 := rfl
    have l2 : fd_len.getD 2 0 = 5 := rfl
    have l3 : fd_len.getD 3 0 = 7 := rfl
    have l4 : fd_len.getD 4 0 = 4 := rfl
    have l5 : fd_len.getD 5 0 = 5 := rfl
    have l6 : fd_len.getD 6 0 = 2 := rfl
    rcases (show m = 0 ∨ m = 1 ∨ m = 2 ∨ m = 3 ∨ m = 4 ∨ m = 5 ∨ m = 6 ∨ m = 7 ∨ m = 8 by omega) with rfl | rfl | rfl | rfl | rfl | rfl | rfl | rfl | rfl <;>
    rcases (show w = 0 ∨ w = 1 ∨ w = 2 ∨ w = 3 ∨ w = 4 ∨ w = 5 ∨ w = 6 by omega) with rfl | rfl | rfl | rfl | rfl | rfl | rfl <;>
    simp only [wcN, cdN, List.getD_cons_zero, List.getD_cons_succ] at hc <;> omega
  by_cases e : m = fd_len.getD w 0
  · refine ⟨fun z => ?_, fun z => ⟨e, (hall e).mpr ?_⟩⟩
    · have z := (hall e).mp z.2
      have z0 := z 0
      have z1 := z 1
      have z2 := z 2
      have z3 := z 3
      have z4 := z 4
      have z5 := z 5
      have z6 := z 6
      rcases (show w = 0 ∨ w = 1 ∨ w = 2 ∨ w = 3 ∨ w = 4 ∨ w = 5 ∨ w = 6 by omega) with rfl | rfl | rfl | rfl | rfl | rfl | rfl
      · obtain rfl : m = 4 := e
        have y0 := (wdC_nI (i := 0) (k := 0) 108 rfl (h 0 (by omega)).1 (h 0 (by omega)).2.2 (by decide)).mp (z0 (by omega))
        have y1 := (wdC_nI (i := 0) (k := 1) 105 rfl (h 1 (by omega)).1 (h 1 (by omega)).2.2 (by decide)).mp (z1 (by omega))
        have y2 := (wdC_nI (i := 0) (k := 2) 102 rfl (h 2 (by omega)).1 (h 2 (by omega)).2.2 (by decide)).mp (z2 (by omega))
        have y3 := (wdC_nI (i := 0) (k := 3) 101 rfl (h 3 (by omega)).1 (h 3 (by omega)).2.2 (by decide)).mp (z3 (by omega))
        simp only [wcN, y0, y1, y2, y3]
        rfl
      · obtain rfl : m = 3 := e
        have y0 := (wdC_nI (i := 1) (k := 0) 100 rfl (h 0 (by omega)).1 (h 0 (by omega)).2.2 (by decide)).mp (z0 (by omega))
        have y1 := (wdC_nI (i := 1) (k := 1) 97 rfl (h 1 (by omega)).1 (h 1 (by omega)).2.2 (by decide)).mp (z1 (by omega))
        have y2 := (wdC_nI (i := 1) (k := 2) 121 rfl (h 2 (by omega)).1 (h 2 (by omega)).2.2 (by decide)).mp (z2 (by omega))
        simp only [wcN, y0, y1, y2]
        rfl
      · obtain rfl : m = 5 := e
        have y0 := (wdC_nI (i := 2) (k := 0) 110 rfl (h 0 (by omega)).1 (h 0 (by omega)).2.2 (by decide)).mp (z0 (by omega))
        have y1 := (wdC_nI (i := 2) (k := 1) 101 rfl (h 1 (by omega)).1 (h 1 (by omega)).2.2 (by decide)).mp (z1 (by omega))
        have y2 := (wdC_nI (i := 2) (k := 2) 101 rfl (h 2 (by omega)).1 (h 2 (by omega)).2.2 (by decide)).mp (z2 (by omega))
        have y3 := (wdC_nI (i := 2) (k := 3) 100 rfl (h 3 (by omega)).1 (h 3 (by omega)).2.2 (by decide)).mp (z3 (by omega))
        have y4 := (wdC_nI (i := 2) (k := 4) 115 rfl (h 4 (by omega)).1 (h 4 (by omega)).2.2 (by decide)).mp (z4 (by omega))
        simp only [wcN, y0, y1, y2, y3, y4]
        rfl
      · obtain rfl : m = 7 := e
        have y0 := (wdC_nI (i := 3) (k := 0) 116 rfl (h 0 (by omega)).1 (h 0 (by omega)).2.2 (by decide)).mp (z0 (by omega))
        have y1 := (wdC_nI (i := 3) (k := 1) 101 rfl (h 1 (by omega)).1 (h 1 (by omega)).2.2 (by decide)).mp (z1 (by omega))
        have y2 := (wdC_nI (i := 3) (k := 2) 97 rfl (h 2 (by omega)).1 (h 2 (by omega)).2.2 (by decide)).mp (z2 (by omega))
        have y3 := (wdC_nI (i := 3) (k := 3) 99 rfl (h 3 (by omega)).1 (h 3 (by omega)).2.2 (by decide)).mp (z3 (by omega))
        have y4 := (wdC_nI (i := 3) (k := 4) 104 rfl (h 4 (by omega)).1 (h 4 (by omega)).2.2 (by decide)).mp (z4 (by omega))
        have y5 := (wdC_nI (i := 3) (k := 5) 101 rfl (h 5 (by omega)).1 (h 5 (by omega)).2.2 (by decide)).mp (z5 (by omega))
        have y6 := (wdC_nI (i := 3) (k := 6) 115 rfl (h 6 (by omega)).1 (h 6 (by omega)).2.2 (by decide)).mp (z6 (by omega))
        simp only [wcN, y0, y1, y2, y3, y4, y5, y6]
        rfl
      · obtain rfl : m = 4 := e
        have y0 := (wdC_nI (i := 4) (k := 0) 110 rfl (h 0 (by omega)).1 (h 0 (by omega)).2.2 (by decide)).mp (z0 (by omega))
        have y1 := (wdC_nI (i := 4) (k := 1) 111 rfl (h 1 (by omega)).1 (h 1 (by omega)).2.2 (by decide)).mp (z1 (by omega))
        have y2 := (wdC_nI (i := 4) (k := 2) 116 rfl (h 2 (by omega)).1 (h 2 (by omega)).2.2 (by decide)).mp (z2 (by omega))
        have y3 := (wdC_nI (i := 4) (k := 3) 101 rfl (h 3 (by omega)).1 (h 3 (by omega)).2.2 (by decide)).mp (z3 (by omega))
        simp only [wcN, y0, y1, y2, y3]
        rfl
      · obtain rfl : m = 5 := e
        have y0 := (wdC_nI (i := 5) (k := 0) 97 rfl (h 0 (by omega)).1 (h 0 (by omega)).2.2 (by decide)).mp (z0 (by omega))
        have y1 := (wdC_nI (i := 5) (k := 1) 104 rfl (h 1 (by omega)).1 (h 1 (by omega)).2.2 (by decide)).mp (z1 (by omega))
        have y2 := (wdC_nI (i := 5) (k := 2) 101 rfl (h 2 (by omega)).1 (h 2 (by omega)).2.2 (by decide)).mp (z2 (by omega))
        have y3 := (wdC_nI (i := 5) (k := 3) 97 rfl (h 3 (by omega)).1 (h 3 (by omega)).2.2 (by decide)).mp (z3 (by omega))
        have y4 := (wdC_nI (i := 5) (k := 4) 100 rfl (h 4 (by omega)).1 (h 4 (by omega)).2.2 (by decide)).mp (z4 (by omega))
        simp only [wcN, y0, y1, y2, y3, y4]
        rfl
      · obtain rfl : m = 2 := e
        have y0 := (wdC_nI (i := 6) (k := 0) 97 rfl (h 0 (by omega)).1 (h 0 (by omega)).2.2 (by decide)).mp (z0 (by omega))
        have y1 := (wdC_nI (i := 6) (k := 1) 116 rfl (h 1 (by omega)).1 (h 1 (by omega)).2.2 (by decide)).mp (z1 (by omega))
        simp only [wcN, y0, y1]
        rfl
    · have b0 := h 0
      have b1 := h 1
      have b2 := h 2
      have b3 := h 3
      have b4 := h 4
      have b5 := h 5
      have b6 := h 6
      have key : ∀ i, i < m → ∀ q, wdC w i = nI q → t i = q → T (s + i) = wdC w i := fun i hi q hq ht => by rw [(h i hi).1, hq, ht]
      intro i hi
      rcases (show w = 0 ∨ w = 1 ∨ w = 2 ∨ w = 3 ∨ w = 4 ∨ w = 5 ∨ w = 6 by omega) with rfl | rfl | rfl | rfl | rfl | rfl | rfl
      · obtain rfl : m = 4 := e
        simp only [wcN, cdN, List.getD_cons_zero, List.getD_cons_succ] at z
        rcases (show i = 0 ∨ i = 1 ∨ i = 2 ∨ i = 3 by omega) with rfl | rfl | rfl | rfl
        · exact key 0 hi 108 rfl (by omega)
        · exact key 1 hi 105 rfl (by omega)
        · exact key 2 hi 102 rfl (by omega)
        · exact key 3 hi 101 rfl (by omega)
      · obtain rfl : m = 3 := e
        simp only [wcN, cdN, List.getD_cons_zero, List.getD_cons_succ] at z
        rcases (show i = 0 ∨ i = 1 ∨ i = 2 by omega) with rfl | rfl | rfl
        · exact key 0 hi 100 rfl (by omega)
        · exact key 1 hi 97 rfl (by omega)
        · exact key 2 hi 121 rfl (by omega)
      · obtain rfl : m = 5 := e
        simp only [wcN, cdN, List.getD_cons_zero, List.getD_cons_succ] at z
        rcases (show i = 0 ∨ i = 1 ∨ i = 2 ∨ i = 3 ∨ i = 4 by omega) with rfl | rfl | rfl | rfl | rfl
        · exact key 0 hi 110 rfl (by omega)
        · exact key 1 hi 101 rfl (by omega)
        · exact key 2 hi 101 rfl (by omega)
        · exact key 3 hi 100 rfl (by omega)
        · exact key 4 hi 115 rfl (by omega)
      · obtain rfl : m = 7 := e
        simp only [wcN, cdN, List.getD_cons_zero, List.getD_cons_succ] at z
        rcases (show i = 0 ∨ i = 1 ∨ i = 2 ∨ i = 3 ∨ i = 4 ∨ i = 5 ∨ i = 6 by omega) with rfl | rfl | rfl | rfl | rfl | rfl | rfl
        · exact key 0 hi 116 rfl (by omega)
        · exact key 1 hi 101 rfl (by omega)
        · exact key 2 hi 97 rfl (by omega)
        · exact key 3 hi 99 rfl (by omega)
        · exact key 4 hi 104 rfl (by omega)
        · exact key 5 hi 101 rfl (by omega)
        · exact key 6 hi 115 rfl (by omega)
      · obtain rfl : m = 4 := e
        simp only [wcN, cdN, List.getD_cons_zero, List.getD_cons_succ] at z
        rcases (show i = 0 ∨ i = 1 ∨ i = 2 ∨ i = 3 by omega) with rfl | rfl | rfl | rfl
        · exact key 0 hi 110 rfl (by omega)
        · exact key 1 hi 111 rfl (by omega)
        · exact key 2 hi 116 rfl (by omega)
        · exact key 3 hi 101 rfl (by omega)
      · obtain rfl : m = 5 := e
        simp only [wcN, cdN, List.getD_cons_zero, List.getD_cons_succ] at z
        rcases (show i = 0 ∨ i = 1 ∨ i = 2 ∨ i = 3 ∨ i = 4 by omega) with rfl | rfl | rfl | rfl | rfl
        · exact key 0 hi 97 rfl (by omega)
        · exact key 1 hi 104 rfl (by omega)
        · exact key 2 hi 101 rfl (by omega)
        · exact key 3 hi 97 rfl (by omega)
        · exact key 4 hi 100 rfl (by omega)
      · obtain rfl : m = 2 := e
        simp only [wcN, cdN, List.getD_cons_zero, List.getD_cons_succ] at z
        rcases (show i = 0 ∨ i = 1 by omega) with rfl | rfl
        · exact key 0 hi 97 rfl (by omega)
        · exact key 1 hi 116 rfl (by omega)
  · exact ⟨fun z => absurd z.1 e, fun z => absurd z (hne e)⟩
/-- the model's word and the class's -/
def wdR (w : Int32) (t : Nat) : Prop := (t < 7 ∧ w = nI t) ∨ (t = 10 ∧ w = -1)
theorem wd_rel {T : Nat → Int32} {s m : Nat} (h : ∀ i, i < m → isL T (s + i) = true) : wdR (wdI (wcL T s m)) (wdT T s m 7) ∧ (wdT T s m 7 < 7 → m = fd_len.getD (wdT T s m 7) 0) := by
  have hmt : ∀ k, k ≤ 7 → (wdT T s m k < 7 → mtB T s m (wdT T s m k) = true) := by
    intro k
    induction k with
    | zero => intro _ z; exact absurd (show (10 : Nat) < 7 from z) (by decide)
    | succ k ih =>
      intro hk z
      unfold wdT at z ⊢
      by_cases q : mtB T s m k = true
      · rw [if_pos q]; exact q
      · rw [if_neg q] at z ⊢
        exact ih (by omega) z
  refine ⟨?_, fun z => ?_⟩
  · by_cases hm : m ≤ 8
    · have h2 : ∀ i, i < m → T (s + i) = nI ((T (s + i)).toNatClampNeg) ∧ 97 ≤ (T (s + i)).toNatClampNeg ∧ (T (s + i)).toNatClampNeg ≤ 122 := by
        intro i hi
        have h3 := h i hi
        unfold isL at h3
        have h3 := of_decide_eq_true h3
        obtain ⟨q, hq, e⟩ := dayP_nI (d := T (s + i)) (n := 128) ⟨by omega, by omega⟩
        rw [e, nI_clamp (by omega)]
        rw [e, nI_toInt (by omega)] at h3
        exact ⟨rfl, by omega, by omega⟩
      have hN := wcL_N (t := fun i => (T (s + i)).toNatClampNeg) m hm (fun i hi => ⟨(h2 i hi).1, (h2 i hi).2.2⟩)
      have h63 := wcN_63 (t := fun i => (T (s + i)).toNatClampNeg) hm (fun i hi => (h2 i hi).2.2)
      have hM := mt_N (t := fun i => (T (s + i)).toNatClampNeg) hm h2
      rw [hN]
      generalize wcN (fun i => (T (s + i)).toNatClampNeg) m = N at h63 hM
      have c : ∀ w, w < 7 → (lN N = lN (cdN w) ↔ N = cdN w) := fun w hw => lN_63 h63 (by rcases (show w = 0 ∨ w = 1 ∨ w = 2 ∨ w = 3 ∨ w = 4 ∨ w = 5 ∨ w = 6 by omega) with rfl | rfl | rfl | rfl | rfl | rfl | rfl <;> decide)
      have c0 : lN N = 1818846821 ↔ N = cdN 0 := c 0 (by decide)
      have c1 : lN N = 6578553 ↔ N = cdN 1 := c 1 (by decide)
      have c2 : lN N = 474147546227 ↔ N = cdN 2 := c 2 (by decide)
      have c3 : lN N = 32762566252455283 ↔ N = cdN 3 := c 3 (by decide)
      have c4 : lN N = 1852798053 ↔ N = cdN 4 := c 4 (by decide)
      have c5 : lN N = 418363302244 ↔ N = cdN 5 := c 5 (by decide)
      have c6 : lN N = 24948 ↔ N = cdN 6 := c 6 (by decide)
      have eT : wdT T s m 7 = if N = cdN 6 then 6 else if N = cdN 5 then 5 else if N = cdN 4 then 4 else if N = cdN 3 then 3 else if N = cdN 2 then 2 else if N = cdN 1 then 1 else if N = cdN 0 then 0 else 10 := by
        simp only [wdT, hM 0 (by decide), hM 1 (by decide), hM 2 (by decide), hM 3 (by decide), hM 4 (by decide), hM 5 (by decide), hM 6 (by decide), decide_eq_true_eq]
      have eW : wdI (lN N) = if N = cdN 0 then 0 else if N = cdN 1 then 1 else if N = cdN 2 then 2 else if N = cdN 3 then 3 else if N = cdN 4 then 4 else if N = cdN 5 then 5 else if N = cdN 6 then 6 else -1 := by
        unfold wdI
        simp only [c0, c1, c2, c3, c4, c5, c6]
      rw [eT, eW]
      by_cases d0 : N = cdN 0
      · subst d0; exact Or.inl (by decide)
      by_cases d1 : N = cdN 1
      · subst d1; exact Or.inl (by decide)
      by_cases d2 : N = cdN 2
      · subst d2; exact Or.inl (by decide)
      by_cases d3 : N = cdN 3
      · subst d3; exact Or.inl (by decide)
      by_cases d4 : N = cdN 4
      · subst d4; exact Or.inl (by decide)
      by_cases d5 : N = cdN 5
      · subst d5; exact Or.inl (by decide)
      by_cases d6 : N = cdN 6
      · subst d6; exact Or.inl (by decide)
      rw [if_neg d0, if_neg d1, if_neg d2, if_neg d3, if_neg d4, if_neg d5, if_neg d6, if_neg d6, if_neg d5, if_neg d4, if_neg d3, if_neg d2, if_neg d1, if_neg d0]
      exact Or.inr ⟨rfl, rfl⟩
    · have hno : ∀ w, w < 7 → mtB T s m w = false := fun w hw => by
        unfold mtB
        rw [decide_eq_false (by have := wdL_ok w hw; omega)]
        rfl
      have eT : wdT T s m 7 = 10 := by
        simp only [wdT, hno 0 (by decide), hno 1 (by decide), hno 2 (by decide), hno 3 (by decide), hno 4 (by decide), hno 5 (by decide), hno 6 (by decide)]
        rfl
      rw [eT, wcL_9 (by omega)]
      exact Or.inr ⟨rfl, by decide⟩
  · have := hmt 7 (Nat.le_refl _) z
    unfold mtB at this
    rw [Bool.and_eq_true] at this
    exact of_decide_eq_true this.1
