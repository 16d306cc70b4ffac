/-! notes: what the class's search tells of the model's -/
/-- what is learnt ahead of each day: in the order as it is, in those told -/
def rwB (V : pV) (n : Nat) (p : Nat → Nat) : Nat → Nat → Int32
  | 0 => BV V p n
  | i + 1 => BV V (prm n (V 10 i).toNatClampNeg) n
def awN (V : pV) (n : Nat) (N : Nat → Int32) (p : Nat → Nat) (nt : Nat) : Bool := anB (fun i => Nat.beq (cnN (wlB V (kyK V N (rwB V n p i))) n) n) (nt + 1)
def upN (N : Nat → Int32) (c : Nat) : Nat → Int32 := fun d => if d = c / 6 then N d ||| 1 <<< (nI (c % 6) &&& 31) else N d
def nmC (c : Nat) : Nat := 10 * (c / 6) + c % 6
theorem nmC_d (c : Nat) : nmC c / 10 = c / 6 := by unfold nmC; omega
theorem nmC_m (c : Nat) : nmC c % 10 = c % 6 := by unfold nmC; omega
theorem nmC_lt {a b : Nat} (h : a < b) : nmC a < nmC b := by unfold nmC; omega
theorem nmC_70 {c : Nat} (h : c < 42) : nmC c < 70 := by unfold nmC; omega
theorem anB_0 {f : Nat → Bool} : ∀ k, anB f (k + 1) = (f 0 && anB (fun i => f (i + 1)) k) := by
  intro k
  induction k with
  | zero => simp [anB]
  | succ k ih =>
    show (anB f (k + 1) && f (k + 1)) = (f 0 && (anB (fun i => f (i + 1)) k && f (k + 1)))
    rw [ih, Bool.and_assoc]
theorem wl_ky {V : pV} {n nn : Nat} {p : Nat → Nat} (hn : n ≤ 7) (hV : ∀ k, k < nn → dayP (V 6 k) n) : cnN (wlB V (kyK V (noN V nn) (BV V p n))) n = wlN V n nn p := by
  refine cnN_congr fun d hd => ?_
  unfold wlB
  rw [kyK_eq hn hV hd]
  rfl
theorem awB_awN {V : pV} {n nn nt : Nat} {p : Nat → Nat} (hn : n ≤ 7) (hV : ∀ k, k < nn → dayP (V 6 k) n) : awB V n nn nt p = awN V n (noN V nn) p nt := by
  unfold awB awN
  rw [anB_0]
  have e1 : Nat.beq (cnN (wlB V (kyK V (noN V nn) (rwB V n p 0))) n) n = Nat.beq (wlN V n nn p) n := by
    show Nat.beq (cnN (wlB V (kyK V (noN V nn) (BV V p n))) n) n = _
    rw [wl_ky hn hV]
  have e2 : anB (fun i => Nat.beq (cnN (wlB V (kyK V (noN V nn) (rwB V n p (i + 1)))) n) n) nt = anB (fun k => Nat.beq (wlN V n nn (prm n (V 10 k).toNatClampNeg)) n) nt := by
    refine anB_congr fun k hk => ?_
    show Nat.beq (cnN (wlB V (kyK V (noN V nn) (BV V (prm n (V 10 k).toNatClampNeg) n))) n) n = _
    rw [wl_ky hn hV]
  rw [e1, e2]
theorem kyL_V {V W : pV} {N B : Nat → Int32} (h : W 1 = V 1) : ∀ d, kyL W N B d = kyL V N B d := by
  intro d
  induction d with
  | zero => rfl
  | succ d ih =>
    have e1 : wrB W d = wrB V d := by unfold wrB; rw [h]
    have e2 : rdB W d = rdB V d := by unfold rdB; rw [h]
    show (if wrB W d = true then kyL W N B d ||| (N d &&& (B d ||| if rdB W d then kyL W N B d else 0)) else kyL W N B d) = (if wrB V d = true then kyL V N B d ||| (N d &&& (B d ||| if rdB V d then kyL V N B d else 0)) else kyL V N B d)
    rw [e1, e2, ih]
theorem kyK_V {V W : pV} {N B : Nat → Int32} (h : W 1 = V 1) (d : Nat) : kyK W N B d = kyK V N B d := by
  have e2 : rdB W d = rdB V d := by unfold rdB; rw [h]
  unfold kyK kyF
  rw [kyL_V h, e2]
theorem awN_congr {V W : pV} {n nt : Nat} {N M : Nat → Int32} {p : Nat → Nat} (h1 : W 1 = V 1) (h2 : W 2 = V 2) (h3 : W 3 = V 3) (h10 : W 10 = V 10) (hN : ∀ d, d < n → M d = N d) : awN W n M p nt = awN V n N p nt := by
  have eB : ∀ q : Nat → Nat, BV W q n = BV V q n := by
    intro q
    funext d
    unfold BV ahV
    exact orN_congr fun i _ => lnV_congr (congrFun h1 _) (congrFun h2 _) (congrFun h3 _)
  have eR : ∀ i, rwB W n p i = rwB V n p i := by
    intro i
    cases i with
    | zero => exact eB p
    | succ i =>
      show BV W (prm n (W 10 i).toNatClampNeg) n = BV V (prm n (V 10 i).toNatClampNeg) n
      rw [h10, eB]
  unfold awN
  refine anB_congr fun i _ => ?_
  rw [eR]
  congr 1
  refine cnN_congr fun d hd => ?_
  unfold wlB
  rw [akV_congr (congrFun h1 d) (congrFun h2 d), kyK_V h1, kyK_congr (fun e he => ⟨hN e (by omega), rfl⟩)]
theorem adW_1 {V : pV} {nn a : Nat} : adW V nn a 1 = V 1 ∧ adW V nn a 2 = V 2 ∧ adW V nn a 3 = V 3 ∧ adW V nn a 10 = V 10 := by
  unfold adW
  refine ⟨?_, ?_, ?_, ?_⟩ <;> rw [fd_up_cell (by decide), fd_up_cell (by decide)]
theorem adW_6 {V : pV} {nn a : Nat} : adW V nn a 6 nn = nI (a / 10) ∧ adW V nn a 7 nn = nI (a % 10) := by
  unfold adW
  exact ⟨by rw [fd_up_ne (by decide), fd_up_same], by rw [fd_up_same]⟩
theorem adW_lt {V : pV} {nn a i : Nat} (h : i < nn) : adW V nn a 6 i = V 6 i ∧ adW V nn a 7 i = V 7 i := by
  unfold adW
  exact ⟨by rw [fd_up_ne (by decide), fd_up_pl (by omega)], by rw [fd_up_pl (by omega), fd_up_ne (by decide)]⟩
theorem noN_adW {V : pV} {nn n c : Nat} (hc : c < 6 * n) (hn : n ≤ 7) (d : Nat) (hd : d < n) : noN (adW V nn (nmC c)) (nn + 1) d = upN (noN V nn) c d := by
  have e0 : noV (adW V nn (nmC c)) (nI d) nn = noV V (nI d) nn := noV_agr fun i hi => adW_lt hi
  show noV (adW V nn (nmC c)) (nI d) nn ||| (if adW V nn (nmC c) 6 nn = nI d then 1 <<< (adW V nn (nmC c) 7 nn &&& 31) else 0) = if d = c / 6 then noV V (nI d) nn ||| 1 <<< (nI (c % 6) &&& 31) else noV V (nI d) nn
  rw [e0, adW_6.1, adW_6.2, nmC_d, nmC_m]
  by_cases q : d = c / 6
  · rw [if_pos (by rw [q]), if_pos q]
  · rw [if_neg (fun z => q ((nI_eq (by omega) (by omega)).mp z).symm), if_neg q, Int32.or_zero]
theorem or_set {x : Int32} {j : Nat} (hj : j < 31) (h : btI x j = true) : x ||| (1 <<< (nI j &&& 31)) = x := by
  refine btI_ext fun i hi => ?_
  rw [btI_or, btI_sh hj hi]
  by_cases q : j = i
  · rw [← q, h]; rfl
  · rw [decide_eq_false q, Bool.or_false]
theorem upN_is {V : pV} {nn c : Nat} (h : isN V nn (c / 6) (c % 6) = true) (h7 : ∀ i, i < nn → dayP (V 7 i) 6) (d : Nat) : upN (noN V nn) c d = noN V nn d := by
  unfold upN
  by_cases q : d = c / 6
  · rw [if_pos q]
    have hf : dayP (nI (c % 6)) 6 := nI_dayP (by omega) (by decide)
    refine or_set (by omega) ?_
    have hb : ¬ biB (noV V (nI d) nn) (nI (c % 6)) := by
      rw [noV_bit hf h7, q]
      intro z
      have : isN V nn (c / 6) (c % 6) = false := z
      rw [h] at this
      cases this
    have : ¬ btI (noV V (nI d) nn) (c % 6) = false := fun z => hb (by
      show (_ >>> _) &&& 1 = 0
      rw [btI_and1, btI_shr (by omega)]
      exact z)
    show btI (noV V (nI d) nn) (c % 6) = true
    revert this
    cases btI (noV V (nI d) nn) (c % 6) <;> simp
  · rw [if_neg q]
theorem upN_2 (N : Nat → Int32) (c d : Nat) : upN (upN N c) c d = upN N c d := by
  unfold upN
  by_cases q : d = c / 6
  · rw [if_pos q, if_pos q, Int32.or_assoc, Int32.or_self]
  · rw [if_neg q, if_neg q]
theorem upN_c (N : Nat → Int32) (a b d : Nat) : upN (upN N a) b d = upN (upN N b) a d := by
  unfold upN
  by_cases q : d = b / 6
  · by_cases q2 : d = a / 6
    · rw [if_pos q, if_pos q2, if_pos q2, if_pos q, Int32.or_assoc, Int32.or_assoc, Int32.or_comm (1 <<< (nI (a % 6) &&& 31))]
    · rw [if_pos q, if_neg q2, if_neg q2, if_pos q]
  · by_cases q2 : d = a / 6
    · rw [if_neg q, if_pos q2, if_pos q2, if_neg q]
    · rw [if_neg q, if_neg q2, if_neg q2, if_neg q]
theorem upN_congr {N M : Nat → Int32} {c d : Nat} (h : M d = N d) : upN M c d = upN N c d := by unfold upN; rw [h]
theorem awN_N {V : pV} {n nt : Nat} {N M : Nat → Int32} {p : Nat → Nat} (hN : ∀ d, d < n → M d = N d) : awN V n M p nt = awN V n N p nt := awN_congr rfl rfl rfl rfl hN
theorem isN_adW {V : pV} {nn a d f : Nat} : isN (adW V nn a) (nn + 1) d f = (isN V nn d f || (decide (nI (a / 10) = nI d) && decide (nI (a % 10) = nI f))) := by
  show (orB (fun k => decide (adW V nn a 6 k = nI d) && decide (adW V nn a 7 k = nI f)) nn || (decide (adW V nn a 6 nn = nI d) && decide (adW V nn a 7 nn = nI f))) = _
  rw [adW_6.1, adW_6.2]
  congr 1
  refine orB_congr fun i hi => ?_
  rw [(adW_lt hi).1, (adW_lt hi).2]
def w1N (V : pV) (n nn nt : Nat) (p : Nat → Nat) (c : Nat) : Bool := awN V n (upN (noN V nn) c) p nt
def w2N (V : pV) (n nn nt : Nat) (p : Nat → Nat) (a b : Nat) : Bool := awN V n (upN (upN (noN V nn) a) b) p nt
theorem adB_nm {V : pV} {n nn a : Nat} (h : adB V n nn a = true) : ∃ c, c < 6 * n ∧ a = nmC c := by
  unfold adB at h
  simp only [Bool.and_eq_true] at h
  have b1 := Nat.le_of_ble_eq_true h.1
  have b2 := Nat.le_of_ble_eq_true h.2.1
  exact ⟨6 * (a / 10) + a % 10, by omega, by unfold nmC; omega⟩
theorem adB_at {V : pV} {n nn c : Nat} (hc : c < 6 * n) : adB V n nn (nmC c) = (!isN V nn (c / 6) (c % 6) && Nat.ble (nn + 1) 6) := by
  unfold adB
  rw [nmC_d, nmC_m, Nat.ble_eq_true_of_le (show c / 6 + 1 ≤ n by omega), Nat.ble_eq_true_of_le (show c % 6 + 1 ≤ 6 by omega), Bool.true_and, Bool.true_and]
theorem adW_v {V : pV} {n nn c : Nat} (hc : c < 6 * n) (hn : n ≤ 7) (hV : ∀ k, k < nn → dayP (V 6 k) n ∧ dayP (V 7 k) 6) : ∀ k, k < nn + 1 → dayP (adW V nn (nmC c) 6 k) n ∧ dayP (adW V nn (nmC c) 7 k) 6 := by
  intro k hk
  by_cases q : k = nn
  · rw [q, adW_6.1, adW_6.2, nmC_d, nmC_m]
    exact ⟨nI_dayP (by omega) (by omega), nI_dayP (by omega) (by omega)⟩
  · rw [(adW_lt (show k < nn by omega)).1, (adW_lt (show k < nn by omega)).2]
    exact hV k (by omega)
theorem awB_1 {V : pV} {n nn nt c : Nat} {p : Nat → Nat} (hc : c < 6 * n) (hn : n ≤ 7) (hV : ∀ k, k < nn → dayP (V 6 k) n ∧ dayP (V 7 k) 6) : awB (adW V nn (nmC c)) n (nn + 1) nt p = w1N V n nn nt p c := by
  rw [awB_awN hn (fun k hk => (adW_v hc hn hV k hk).1)]
  exact awN_congr adW_1.1 adW_1.2.1 adW_1.2.2.1 adW_1.2.2.2 (fun d hd => noN_adW hc hn d hd)
theorem awB_2 {V : pV} {n nn nt a b : Nat} {p : Nat → Nat} (ha : a < 6 * n) (hb : b < 6 * n) (hn : n ≤ 7) (hV : ∀ k, k < nn → dayP (V 6 k) n ∧ dayP (V 7 k) 6) : awB (adW (adW V nn (nmC a)) (nn + 1) (nmC b)) n (nn + 1 + 1) nt p = w2N V n nn nt p a b := by
  rw [awB_1 hb hn (adW_v ha hn hV)]
  exact awN_congr adW_1.1 adW_1.2.1 adW_1.2.2.1 adW_1.2.2.2 (fun d hd => upN_congr (noN_adW ha hn d hd))
theorem fi1_at {V : pV} {n nn nt c : Nat} {p : Nat → Nat} (hc : c < 6 * n) (hn : n ≤ 7) (h6 : nn + 1 ≤ 6) (hV : ∀ k, k < nn → dayP (V 6 k) n ∧ dayP (V 7 k) 6) (h0 : awN V n (noN V nn) p nt = false) : fi1 V n nn nt p (nmC c) = w1N V n nn nt p c := by
  unfold fi1
  rw [adB_at hc, awB_1 hc hn hV, Nat.ble_eq_true_of_le h6, Bool.and_true]
  cases hi : isN V nn (c / 6) (c % 6) with
  | false => rfl
  | true =>
    have : w1N V n nn nt p c = awN V n (noN V nn) p nt := awN_N fun d _ => upN_is hi (fun i hi => (hV i hi).2) d
    rw [this, h0]
    rfl
theorem fi2_at {V : pV} {n nn nt a b : Nat} {p : Nat → Nat} (ha : a < 6 * n) (hb : b < 6 * n) (hab : a < b) (hn : n ≤ 7) (h6 : nn + 2 ≤ 6) (hV : ∀ k, k < nn → dayP (V 6 k) n ∧ dayP (V 7 k) 6) (h1 : ∀ c, c < 6 * n → w1N V n nn nt p c = false) : fi2 V n nn nt p (nmC a) (nmC b) = w2N V n nn nt p a b := by
  unfold fi2
  rw [adB_at ha, adB_at hb, awB_2 ha hb hn hV, Nat.ble_eq_true_of_le (show nn + 1 ≤ 6 by omega), Nat.ble_eq_true_of_le (show nn + 1 + 1 ≤ 6 by omega), Bool.and_true, Bool.and_true, isN_adW, nmC_d, nmC_m]
  have hne : (decide (nI (a / 6) = nI (b / 6)) && decide (nI (a % 6) = nI (b % 6))) = false := by
    refine Bool.eq_false_iff.mpr fun q => ?_
    rw [Bool.and_eq_true, decide_eq_true_eq, decide_eq_true_eq] at q
    have q1 := (nI_eq (by omega) (by omega)).mp q.1
    have q2 := (nI_eq (by omega) (by omega)).mp q.2
    omega
  rw [hne, Bool.or_false]
  cases hi : isN V nn (a / 6) (a % 6) with
  | true =>
    have : w2N V n nn nt p a b = w1N V n nn nt p b := awN_N fun d _ => upN_congr (upN_is hi (fun i hi => (hV i hi).2) d)
    rw [this, h1 b hb]
    rfl
  | false =>
    cases hj : isN V nn (b / 6) (b % 6) with
    | true =>
      have : w2N V n nn nt p a b = w1N V n nn nt p a := awN_N fun d _ => (upN_c _ a b d).trans (upN_congr (upN_is hj (fun i hi => (hV i hi).2) d))
      rw [this, h1 a ha]
      rfl
    | false => rfl
theorem fwA_at {f : Nat → Bool} {g : Nat → Nat} {x : Nat} : ∀ m a, a ≤ x → x < a + m → f x = true → (∀ y, a ≤ y → y < x → f y = false) → fwA f g m a = nI (g x) := by
  intro m
  induction m with
  | zero => intro a h1 h2; omega
  | succ m ih =>
    intro a h1 h2 h3 h4
    show (if f a = true then nI (g a) else fwA f g m (a + 1)) = _
    by_cases q : a = x
    · rw [q, if_pos h3]
    · rw [if_neg (by rw [h4 a (Nat.le_refl _) (by omega)]; decide)]
      exact ih (a + 1) (by omega) (by omega) h3 (fun y y1 y2 => h4 y (by omega) y2)
theorem fwA_out {f : Nat → Bool} {g : Nat → Nat} : ∀ m a, (∀ y, a ≤ y → y < a + m → f y = false) → fwA f g m a = -1 := by
  intro m
  induction m with
  | zero => intro a _; rfl
  | succ m ih =>
    intro a h
    show (if f a = true then nI (g a) else fwA f g m (a + 1)) = _
    rw [if_neg (by rw [h a (Nat.le_refl _) (by omega)]; decide)]
    exact ih (a + 1) (fun y y1 y2 => h y (by omega) (by omega))
section NTS
variable {V : pV} {n nn nt : Nat} {p : Nat → Nat}
theorem fi1_no (hn : n ≤ 7) (h6 : nn + 1 ≤ 6) (hV : ∀ k, k < nn → dayP (V 6 k) n ∧ dayP (V 7 k) 6) (h0 : awN V n (noN V nn) p nt = false) {r : Nat} (h : ∀ c, c < r → c < 6 * n → w1N V n nn nt p c = false) : ∀ y, y < nmC r → fi1 V n nn nt p y = false := by
  intro y hy
  refine Bool.eq_false_iff.mpr fun q => ?_
  have q1 : adB V n nn y = true := by
    unfold fi1 at q
    rw [Bool.and_eq_true] at q
    exact q.1
  obtain ⟨c, hc, rfl⟩ := adB_nm q1
  rw [fi1_at hc hn h6 hV h0] at q
  have hcr : c < r := Nat.not_le.mp fun z => by
    rcases Nat.lt_or_eq_of_le z with z | z
    · have := nmC_lt z; omega
    · rw [z] at hy; omega
  rw [h c hcr hc] at q
  cases q
theorem fw1_yes (hn : n ≤ 7) (h6 : nn + 1 ≤ 6) (hV : ∀ k, k < nn → dayP (V 6 k) n ∧ dayP (V 7 k) 6) (h0 : awN V n (noN V nn) p nt = false) {r : Nat} (hr : r < 6 * n) (h1 : w1N V n nn nt p r = true) (h : ∀ c, c < r → w1N V n nn nt p c = false) : fw1 V n nn nt p 70 0 = nI (100 * nmC r + 99) := by
  unfold fw1
  exact fwA_at 70 0 (Nat.zero_le _) (by have := nmC_70 (c := r) (by omega); omega) ((fi1_at hr hn h6 hV h0).trans h1) (fun y _ hy => fi1_no hn h6 hV h0 (fun c hc _ => h c hc) y hy)
theorem fw1_not (hn : n ≤ 7) (hV : ∀ k, k < nn → dayP (V 6 k) n ∧ dayP (V 7 k) 6) (h0 : awN V n (noN V nn) p nt = false) (h : nn + 1 ≤ 6 → ∀ c, c < 6 * n → w1N V n nn nt p c = false) : fw1 V n nn nt p 70 0 = -1 := by
  unfold fw1
  refine fwA_out 70 0 (fun y _ hy => ?_)
  by_cases h6 : nn + 1 ≤ 6
  · refine Bool.eq_false_iff.mpr fun q => ?_
    have q1 : adB V n nn y = true := by
      unfold fi1 at q
      rw [Bool.and_eq_true] at q
      exact q.1
    obtain ⟨c, hc, rfl⟩ := adB_nm q1
    rw [fi1_at hc hn h6 hV h0, h h6 c hc] at q
    cases q
  · refine Bool.eq_false_iff.mpr fun q => ?_
    unfold fi1 adB at q
    simp only [Bool.and_eq_true] at q
    exact h6 (Nat.le_of_ble_eq_true q.1.2.2.2)
theorem fi2_nm {y z : Nat} (q : fi2 V n nn nt p y z = true) : ∃ a b, a < 6 * n ∧ b < 6 * n ∧ y = nmC a ∧ z = nmC b ∧ nn + 2 ≤ 6 := by
  unfold fi2 at q
  simp only [Bool.and_eq_true] at q
  obtain ⟨q1, q2, q3⟩ := q
  obtain ⟨a, ha, ea⟩ := adB_nm q1
  obtain ⟨b, hb, eb⟩ := adB_nm q2
  unfold adB at q2
  simp only [Bool.and_eq_true] at q2
  exact ⟨a, b, ha, hb, ea, eb, Nat.le_of_ble_eq_true q2.2.2.2⟩
theorem nmC_lt' {a b : Nat} (h : nmC a < nmC b) : a < b := Nat.not_le.mp fun z => by
  rcases Nat.lt_or_eq_of_le z with z | z
  · have := nmC_lt z; omega
  · rw [z] at h; omega
theorem fw2_out {y : Nat} (hn : n ≤ 7) (hV : ∀ k, k < nn → dayP (V 6 k) n ∧ dayP (V 7 k) 6) (h1 : nn + 2 ≤ 6 → ∀ c, c < 6 * n → w1N V n nn nt p c = false) (h : ∀ a b, nn + 2 ≤ 6 → y = nmC a → a < b → b < 6 * n → w2N V n nn nt p a b = false) : fw2 V n nn nt p y (69 - y) (y + 1) = -1 := by
  unfold fw2
  refine fwA_out _ _ (fun z hz _ => ?_)
  refine Bool.eq_false_iff.mpr fun q => ?_
  obtain ⟨a, b, ha, hb, ea, eb, h6⟩ := fi2_nm q
  have hab : a < b := nmC_lt' (by omega)
  rw [ea, eb, fi2_at ha hb hab hn h6 hV (h1 h6), h a b h6 ea hab hb] at q
  cases q
theorem fwB_out : ∀ m a, (∀ y, a ≤ y → y < a + m → fw2 V n nn nt p y (69 - y) (y + 1) = -1) → fwB V n nn nt p m a = -1 := by
  intro m
  induction m with
  | zero => intro a _; rfl
  | succ m ih =>
    intro a h
    show (if fw2 V n nn nt p a (69 - a) (a + 1) = -1 then fwB V n nn nt p m (a + 1) else fw2 V n nn nt p a (69 - a) (a + 1)) = _
    rw [if_pos (h a (Nat.le_refl _) (by omega))]
    exact ih (a + 1) (fun y y1 y2 => h y (by omega) (by omega))
theorem fwB_at {x : Nat} : ∀ m a, a ≤ x → x < a + m → ¬ fw2 V n nn nt p x (69 - x) (x + 1) = -1 → (∀ y, a ≤ y → y < x → fw2 V n nn nt p y (69 - y) (y + 1) = -1) → fwB V n nn nt p m a = fw2 V n nn nt p x (69 - x) (x + 1) := by
  intro m
  induction m with
  | zero => intro a h1 h2; omega
  | succ m ih =>
    intro a h1 h2 h3 h4
    show (if fw2 V n nn nt p a (69 - a) (a + 1) = -1 then fwB V n nn nt p m (a + 1) else fw2 V n nn nt p a (69 - a) (a + 1)) = _
    by_cases q : a = x
    · rw [q, if_neg h3]
    · rw [if_pos (h4 a (Nat.le_refl _) (by omega))]
      exact ih (a + 1) (by omega) (by omega) h3 (fun y y1 y2 => h4 y (by omega) y2)
theorem fwB_not (hn : n ≤ 7) (hV : ∀ k, k < nn → dayP (V 6 k) n ∧ dayP (V 7 k) 6) (h1 : nn + 2 ≤ 6 → ∀ c, c < 6 * n → w1N V n nn nt p c = false) (h : nn + 2 ≤ 6 → ∀ a b, a < b → b < 6 * n → w2N V n nn nt p a b = false) : fwB V n nn nt p 70 0 = -1 := fwB_out 70 0 (fun _ _ _ => fw2_out hn hV h1 (fun a b h6 _ hab hb => h h6 a b hab hb))
theorem fwB_yes (hn : n ≤ 7) (h6 : nn + 2 ≤ 6) (hV : ∀ k, k < nn → dayP (V 6 k) n ∧ dayP (V 7 k) 6) (h1 : ∀ c, c < 6 * n → w1N V n nn nt p c = false) {a b : Nat} (hab : a < b) (hb : b < 6 * n) (hw : w2N V n nn nt p a b = true) (hl : ∀ a', a' < a → ∀ b', a' < b' → b' < 6 * n → w2N V n nn nt p a' b' = false) (hh : ∀ b', a < b' → b' < b → w2N V n nn nt p a b' = false) : fwB V n nn nt p 70 0 = nI (100 * nmC a + nmC b) := by
  have ha7 := nmC_70 (c := a) (by omega)
  have hb7 := nmC_70 (c := b) (by omega)
  have hlt := nmC_lt hab
  have e2 : fw2 V n nn nt p (nmC a) (69 - nmC a) (nmC a + 1) = nI (100 * nmC a + nmC b) := by
    unfold fw2
    refine fwA_at _ _ (by omega) (by omega) ((fi2_at (by omega) hb hab hn h6 hV h1).trans hw) (fun z z1 z2 => ?_)
    refine Bool.eq_false_iff.mpr fun q => ?_
    obtain ⟨a', b', ha', hb', ea, eb, _⟩ := fi2_nm q
    have eaa : a' = a := by
      rcases Nat.lt_trichotomy a' a with w | w | w
      · have := nmC_lt w; omega
      · exact w
      · have := nmC_lt w; omega
    subst eaa
    have hab' : a' < b' := nmC_lt' (by omega)
    have hbb : b' < b := nmC_lt' (by omega)
    rw [eb, fi2_at ha' hb' hab' hn h6 hV h1, hh b' hab' hbb] at q
    cases q
  rw [← e2]
  refine fwB_at 70 0 (Nat.zero_le _) (by omega) (by rw [e2]; exact nI_n1 (by omega)) (fun y _ y2 => ?_)
  refine fw2_out hn hV (fun _ => h1) (fun a' b' _ ey hab' hb' => hl a' (nmC_lt' (by omega)) b' hab' hb')
end NTS
theorem ntA_at {x y : Nat} (hx : x < 100) (hy : y < 100) : ntA (nI (100 * x + y)) 0 = (if x = 99 then 0 else 1) + (if y = 99 then 0 else 1) ∧ ntA (nI (100 * x + y)) 1 = (if x = 99 then -1 else nI x) ∧ ntA (nI (100 * x + y)) 2 = (if y = 99 then -1 else nI y) := by
  have e1 : nI (100 * x + y) / 100 = nI x := by
    have := pk_div (a := 100 * x + y) (d := 100) (by omega) (by omega) (by omega)
    rw [show (100 * x + y) / 100 = x by omega] at this
    exact this
  have e2 : nI (100 * x + y) - nI (100 * x + y) / 100 * 100 = nI y := by
    have := pk_rem (a := 100 * x + y) (d := 100) (by omega) (by omega) (by omega)
    rw [show (100 * x + y) % 100 = y by omega] at this
    exact this
  have c99 : ∀ z, z < 100 → (nI z = 99 ↔ z = 99) := fun z hz => nI_eq (b := 99) (by omega) (by omega)
  have n1 : ¬ nI (100 * x + y) = -1 := nI_n1 (by omega)
  refine ⟨?_, ?_, ?_⟩
  · unfold ntA
    rw [if_neg n1, if_pos (show (0 : Int32) = 0 from rfl), e2, e1]
    congr 1
    · by_cases q : x = 99
      · rw [if_pos ((c99 x hx).mpr q), if_pos q]
      · rw [if_neg (fun z => q ((c99 x hx).mp z)), if_neg q]
    · by_cases q : y = 99
      · rw [if_pos ((c99 y hy).mpr q), if_pos q]
      · rw [if_neg (fun z => q ((c99 y hy).mp z)), if_neg q]
  · unfold ntA
    rw [if_neg n1, if_neg (show ¬ (1 : Int32) = 0 by decide), if_pos (show (1 : Int32) = 1 from rfl), e1]
    by_cases q : x = 99
    · rw [if_pos ((c99 x hx).mpr q), if_pos q]
    · rw [if_neg (fun z => q ((c99 x hx).mp z)), if_neg q]
  · unfold ntA
    rw [if_neg n1, if_neg (show ¬ (2 : Int32) = 0 by decide), if_neg (show ¬ (2 : Int32) = 1 by decide), e2]
    by_cases q : y = 99
    · rw [if_pos ((c99 y hy).mpr q), if_pos q]
    · rw [if_neg (fun z => q ((c99 y hy).mp z)), if_neg q]
