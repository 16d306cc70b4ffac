/-! the pure picture, on: where a day is lived, what she knows in an order, what is told -/
def ps (p : Nat → Nat) : Nat → Nat → Nat
  | 0, _ => 0
  | m + 1, d => if p m = d then m else ps p m d
theorem ps_at {p : Nat → Nat} {n : Nat} (h : isP p n) : ∀ k, k < n → ps p n (p k) = k := by
  have : ∀ m, m ≤ n → ∀ k, k < m → ps p m (p k) = k := by
    intro m
    induction m with
    | zero => intro _ k hk; omega
    | succ m ih =>
      intro hm k hk
      unfold ps
      by_cases q : p m = p k
      · rw [if_pos q]; exact h.2 m k (by omega) (by omega) q
      · rw [if_neg q]
        refine ih (by omega) k ?_
        by_cases e : k = m
        · subst e; exact absurd rfl q
        · omega
  exact this n (Nat.le_refl n)
theorem ps_lt {p : Nat → Nat} {n d : Nat} (h : isP p n) (hd : d < n) : ps p n d < n ∧ p (ps p n d) = d := by
  obtain ⟨k, hk, rfl⟩ := isP_sur h d hd
  rw [ps_at h k hk]
  exact ⟨hk, rfl⟩
/-- what she has learnt ahead of a day -/
def BV (V : pV) (p : Nat → Nat) (n d : Nat) : Int32 := ahV V p (ps p n d)
def knV (V : pV) (n nn : Nat) (p : Nat → Nat) : Nat → Int32 := ktV V nn (BV V p n) n
def wlN (V : pV) (n nn : Nat) (p : Nat → Nat) : Nat := cnN (wlB V (knV V n nn p)) n
def tlP (V : pV) (n : Nat) (p : Nat → Nat) (k : Nat) : Bool := Nat.ble (ps p n (V 8 k).toNatClampNeg + 1) (ps p n (V 9 k).toNatClampNeg)
def tlA (V : pV) (n : Nat) (p : Nat → Nat) (d : Nat) : Bool := V 4 d = -1 || V 4 d = nI (ps p n d)
def tlB (V : pV) (n np : Nat) (p : Nat → Nat) : Bool := anB (tlP V n p) np && anB (tlA V n p) n
/-- two lives that agree in what counts -/
def agr (V W : pV) (n nn np nt : Nat) : Prop := (∀ d, d < n → W 1 d = V 1 d ∧ W 2 d = V 2 d ∧ W 3 d = V 3 d ∧ W 4 d = V 4 d ∧ W 5 d = V 5 d) ∧ (∀ k, k < nn → W 6 k = V 6 k ∧ W 7 k = V 7 k) ∧ (∀ k, k < np → W 8 k = V 8 k ∧ W 9 k = V 9 k) ∧ ∀ k, k < nt → W 10 k = V 10 k
def okV (V : pV) (n nn np nt : Nat) : Prop := (∀ d, d < n → dayP (V 1 d) 6 ∧ dayP (V 2 d) 64 ∧ dayP (V 3 d) 64 ∧ (V 4 d = -1 ∨ dayP (V 4 d) n) ∧ (V 5 d = -1 ∨ dayP (V 5 d) 64)) ∧ (∀ k, k < nn → dayP (V 6 k) n ∧ dayP (V 7 k) 6) ∧ (∀ k, k < np → dayP (V 8 k) n ∧ dayP (V 9 k) n) ∧ ∀ k, k < nt → dayP (V 10 k) (fac n)
theorem ahV_agr {V W : pV} {n nn np nt : Nat} {p : Nat → Nat} (h : agr V W n nn np nt) (hp : isP p n) {k : Nat} (hk : k ≤ n) : ahV W p k = ahV V p k := orN_congr fun i hi => by
  have := h.1 (p i) (hp.1 i (by omega))
  exact lnV_congr this.1 this.2.1 this.2.2.1
theorem ktV_agr {V W : pV} {n nn np nt : Nat} {B B' : Nat → Int32} (h : agr V W n nn np nt) (ho : okV V n nn np nt) (hB : ∀ d, d < n → B' d = B d) : ∀ m, m ≤ n → ∀ d, d < m → ktV W nn B' m d = ktV V nn B m d := by
  have hr : ∀ d, d < n → ∀ K K' : Nat → Int32, (∀ e, e < d → K' e = K e) → rdV W nn K' d = rdV V nn K d := by
    intro d hd K K' hK
    have h1 := (h.1 d hd).1
    have e : rdB W d = rdB V d := by simp only [rdB, h1]
    unfold rdV
    rw [e]
    split
    · refine orN_congr fun k hk => ?_
      obtain ⟨h6, h7⟩ := h.2.1 k hk
      have lt : (V 6 k).toNatClampNeg < n := Nat.not_le.mp fun q => dayP_in (ho.2.1 k hk).1 (Or.inr q)
      have w : wrB W (V 6 k).toNatClampNeg = wrB V (V 6 k).toNatClampNeg := by simp only [wrB, (h.1 _ lt).1]
      unfold ntV
      rw [h6, h7, w]
      by_cases c : (V 6 k).toNatClampNeg < d
      · rw [hK _ c]
      · rw [if_neg (fun z => c z.1), if_neg (fun z => c z.1)]
    · rfl
  intro m
  induction m with
  | zero => intro _ d hd; omega
  | succ m ih =>
    intro hm d hd
    show (if d = m then _ else _) = (if d = m then _ else _)
    by_cases q : d = m
    · rw [if_pos q, if_pos q, hB m (by omega), hr m (by omega) _ _ (fun e he => ih (by omega) e he)]
    · rw [if_neg q, if_neg q]
      exact ih (by omega) d (by omega)
theorem knV_agr {V W : pV} {n nn np nt : Nat} {p : Nat → Nat} (h : agr V W n nn np nt) (ho : okV V n nn np nt) (hp : isP p n) {B : Nat → Int32} (hB : ∀ k, k < n → B (p k) = ahV W p k) : ∀ d, d < n → ktV W nn B n d = knV V n nn p d := by
  refine ktV_agr h ho (fun d hd => ?_) n (Nat.le_refl n)
  obtain ⟨h1, h2⟩ := ps_lt hp hd
  have := hB _ h1
  rw [h2] at this
  rw [this, ahV_agr h hp (Nat.le_of_lt h1)]
  rfl
theorem rdV_agr {V W : pV} {n nn np nt : Nat} {K K' : Nat → Int32} (h : agr V W n nn np nt) (ho : okV V n nn np nt) (hK : ∀ e, e < n → K' e = K e) {d : Nat} (hd : d < n) : rdV W nn K' d = rdV V nn K d := by
  have e : rdB W d = rdB V d := by simp only [rdB, (h.1 d hd).1]
  unfold rdV
  rw [e]
  split
  · refine orN_congr fun k hk => ?_
    obtain ⟨h6, h7⟩ := h.2.1 k hk
    obtain ⟨j, hj, ej⟩ := dayP_nI (ho.2.1 k hk).1
    have w : wrB W (V 6 k).toNatClampNeg = wrB V (V 6 k).toNatClampNeg := by
      have : (V 6 k).toNatClampNeg < n := by
        have := dayP_in (ho.2.1 k hk).1
        exact Nat.not_le.mp fun q => this (Or.inr q)
      simp only [wrB, (h.1 _ this).1]
    unfold ntV
    rw [h6, h7, w]
    by_cases c : (V 6 k).toNatClampNeg < d
    · rw [hK _ (by omega)]
    · rw [if_neg (fun z => c z.1), if_neg (fun z => c z.1)]
  · rfl
theorem wlB_agr {V W : pV} {n nn np nt : Nat} {K K' : Nat → Int32} (h : agr V W n nn np nt) (hK : ∀ e, e < n → K' e = K e) : cnN (wlB W K') n = cnN (wlB V K) n := cnN_congr fun d hd => by
  unfold wlB
  rw [hK d hd, akV_congr (h.1 d hd).1 (h.1 d hd).2.1]
/-- the model's cells hold the life V -/
def mOk (V : pV) (I : fdI) (n nn np nt : Nat) : Prop := I 0 1 = nI n ∧ (1 ≤ n ∧ n ≤ 7) ∧ I 0 7 = nI nn ∧ nn ≤ 6 ∧ I 0 10 = nI np ∧ np ≤ 6 ∧ I 0 13 = nI nt ∧ nt ≤ 3 ∧ agr V (mV I) n nn np nt ∧ okV V n nn np nt
/-- only what is reckoned anew has changed -/
def mSm (I I' : fdI) : Prop := (∀ a, a ≠ 0 → a ≠ 13 → a ≠ 14 → a ≠ 15 → a ≠ 16 → a ≠ 17 → a ≠ 18 → a ≠ 19 → I' a = I a) ∧ ∀ j, j ≠ 22 → I' 0 j = I 0 j
theorem mSm.rfl' {I : fdI} : mSm I I := ⟨fun _ _ _ _ _ _ _ _ _ => rfl, fun _ _ => rfl⟩
theorem mSm.trans {I J K : fdI} (h : mSm I J) (h2 : mSm J K) : mSm I K := ⟨fun a a0 a1 a2 a3 a4 a5 a6 a7 => (h2.1 a a0 a1 a2 a3 a4 a5 a6 a7).trans (h.1 a a0 a1 a2 a3 a4 a5 a6 a7), fun j hj => (h2.2 j hj).trans (h.2 j hj)⟩
theorem mVsm {I J : fdI} (h : mSm I J) : mV J = mV I := by
  have e : ∀ a, a = 2 ∨ a = 3 ∨ a = 4 ∨ a = 5 ∨ a = 7 ∨ a = 8 ∨ a = 9 ∨ a = 10 ∨ a = 11 ∨ a = 12 → J a = I a := fun a ha => h.1 a (by omega) (by omega) (by omega) (by omega) (by omega) (by omega) (by omega) (by omega)
  funext c
  unfold mV
  split
  · exact e 2 (by decide)
  · exact e 3 (by decide)
  · exact e 4 (by decide)
  · exact e 5 (by decide)
  · exact e 12 (by decide)
  · exact e 7 (by decide)
  · exact e 8 (by decide)
  · exact e 9 (by decide)
  · exact e 10 (by decide)
  · exact e 11 (by decide)
  · funext j
    split
    · exact h.2 1 (by decide)
    · exact h.2 7 (by decide)
    · exact h.2 10 (by decide)
    · exact h.2 13 (by decide)
    · exact h.2 16 (by decide)
    · exact h.2 17 (by decide)
    · rfl
theorem mSm.mV {I J : fdI} (h : mSm I J) : mV J = mV I := mVsm h
theorem mOk.sm {V : pV} {I J : fdI} {n nn np nt : Nat} (h : mOk V I n nn np nt) (hs : mSm I J) : mOk V J n nn np nt := by
  obtain ⟨h1, h2, h3, h4, h5, h6, h7, h8, h9, h10⟩ := h
  exact ⟨(hs.2 1 (by decide)).trans h1, h2, (hs.2 7 (by decide)).trans h3, h4, (hs.2 10 (by decide)).trans h5, h6, (hs.2 13 (by decide)).trans h7, h8, by rw [hs.mV]; exact h9, h10⟩
/-- how she lives the order p, by the life V -/
def lvV (V : pV) (I I' : fdI) (n nn : Nat) (p : Nat → Nat) : Prop := (∀ d, d < n → I' 16 d = nI (ps p n d) ∧ I' 15 d = knV V n nn p d ∧ I' 14 d = rdV V nn (knV V n nn p) d) ∧ I' 0 22 = nI (wlN V n nn p)
theorem c_lives (V : pV) (α : Nat → Nat) (I : fdI) (L : fdL) (kr : Nat) (hS : fd_SM[kr]? = some (.inr (.inl (0, 7)))) (hkr : kr = 6 ∨ kr = 17) {n nn np nt : Nat} {p : Nat → Nat} (h : mOk V I n nn np nt) (hrow : ∀ k, k < n → I kr k = nI (p k)) (hp : isP p n) :
    Con fd_SM α yX11_lives mX11_lives [.ref (α 0), .ref (α kr)] I L (fd_vp (fun I' L' => L' = L ∧ mSm I I' ∧ (I' 17 = I 17 ∧ I' 18 = I 18) ∧ lvV V I I' n nn p)) := by
  obtain ⟨h1, h2, h3, h4, h5, h6, h7, h8, h9, h10⟩ := h
  refine (c_X11_lives α I L kr hS hkr h1 h2 h3 h4 (fun k hk => by rw [show I 7 k = V 6 k from (h9.2.1 k hk).1]; exact (h10.2.1 k hk).1) hrow hp).weaken ?_
  intro rv I' L' ⟨e, q0, B, g1, g2, g3, g4, g5, g6⟩
  have hK := knV_agr h9 h10 hp g4
  refine ⟨e, q0, ⟨fun a a0 a1 a2 a3 a4 _ _ _ => g1 a a0 a1 a2 a3 a4, g2⟩, ⟨g1 17 (by decide) (by decide) (by decide) (by decide) (by decide), g1 18 (by decide) (by decide) (by decide) (by decide) (by decide)⟩, fun d hd => ⟨?_, ?_, ?_⟩, ?_⟩
  · obtain ⟨z1, z2⟩ := ps_lt hp hd
    have := g3 _ z1
    rwa [z2] at this
  · rw [(g5 d hd).1, hK d hd]
  · rw [(g5 d hd).2]
    exact rdV_agr h9 h10 hK hd
  · rw [g6, wlB_agr h9 hK]
    rfl
