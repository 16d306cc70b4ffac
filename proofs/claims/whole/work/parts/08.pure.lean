/-! the pure picture: what the days are, by numbers -/
abbrev pV : Type := Nat → Nat → Int32
abbrev dayP (d : Int32) (n : Nat) : Prop := 0 ≤ d.toInt ∧ d.toInt < (n : Int)
theorem dayP_in {d : Int32} {n : Nat} (h : dayP d n) : vp_in d n := vp_in_iff.mpr h
theorem dayP_of {d : Int32} {n : Nat} (h : vp_in d n) : dayP d n := vp_in_iff.mp h
theorem dayP_nI {d : Int32} {n : Nat} (h : dayP d n) : ∃ j : Nat, j < n ∧ d = nI j := by
  refine ⟨d.toInt.toNat, by omega, ?_⟩
  apply Int32.toInt_inj.mp
  have h2 := Int32.toInt_lt d
  rw [nI_toInt (by omega)]
  omega
theorem nI_dayP {j n : Nat} (h : j < n) (hn : n < 2 ^ 31) : dayP (nI j) n := by
  show 0 ≤ (nI j).toInt ∧ (nI j).toInt < (n : Int)
  rw [nI_toInt (by omega)]
  omega
theorem i64_in {v a b : Int32} : (a.toInt64 ≤ v.toInt64 ∧ v.toInt64 ≤ b.toInt64) ↔ (a.toInt ≤ v.toInt ∧ v.toInt ≤ b.toInt) := by
  rw [Int64.le_iff_toInt_le, Int64.le_iff_toInt_le, Int32.toInt_toInt64, Int32.toInt_toInt64, Int32.toInt_toInt64]
/-- the or of the first k -/
def orN (f : Nat → Int32) : Nat → Int32
  | 0 => 0
  | k + 1 => orN f k ||| f k
/-- how many of the first k -/
def cnN (f : Nat → Bool) : Nat → Nat
  | 0 => 0
  | k + 1 => cnN f k + (if f k then 1 else 0)
theorem cnN_le (f : Nat → Bool) (k : Nat) : cnN f k ≤ k := by
  induction k with
  | zero => exact Nat.le_refl 0
  | succ k ih => unfold cnN; split <;> omega
theorem orN_congr {f g : Nat → Int32} {k : Nat} (h : ∀ i, i < k → f i = g i) : orN f k = orN g k := by
  induction k with
  | zero => rfl
  | succ k ih => unfold orN; rw [ih (fun i hi => h i (by omega)), h k (by omega)]
theorem cnN_congr {f g : Nat → Bool} {k : Nat} (h : ∀ i, i < k → f i = g i) : cnN f k = cnN g k := by
  induction k with
  | zero => rfl
  | succ k ih => unfold cnN; rw [ih (fun i hi => h i (by omega)), h k (by omega)]
/-- what is learnt by a day, what it needs, whether it reads, whether it writes -/
def lnV (V : pV) (d : Nat) : Int32 := if V 1 d = 2 ∨ V 1 d = 5 then 0 else if V 1 d = 4 then V 3 d ||| V 2 d else V 3 d
def akV (V : pV) (d : Nat) : Int32 := if V 1 d = 5 then 0 else V 2 d
def rdB (V : pV) (d : Nat) : Bool := !(V 1 d = 1 || V 1 d = 4)
def wrB (V : pV) (d : Nat) : Bool := !(V 1 d = 3 || V 1 d = 5)
/-- what is learnt on the first k days of the order p -/
def ahV (V : pV) (p : Nat → Nat) (k : Nat) : Int32 := orN (fun i => lnV V (p i)) k
/-- what the k-th note gives to a day d, if K is known by date -/
def ntV (V : pV) (K : Nat → Int32) (d k : Nat) : Int32 := if (V 6 k).toNatClampNeg < d ∧ wrB V (V 6 k).toNatClampNeg = true then K (V 6 k).toNatClampNeg &&& 1 <<< (V 7 k &&& 31) else 0
def rdV (V : pV) (nn : Nat) (K : Nat → Int32) (d : Nat) : Int32 := if rdB V d then orN (ntV V K d) nn else 0
/-- what she knows by date, if B is what she has learnt ahead of each -/
def ktV (V : pV) (nn : Nat) (B : Nat → Int32) : Nat → Nat → Int32
  | 0 => fun _ => 0
  | d + 1 => fun e => if e = d then B d ||| rdV V nn (ktV V nn B d) d else ktV V nn B d e
theorem ktV_lt {V : pV} {nn : Nat} {B : Nat → Int32} {m e : Nat} (h : e < m) : ktV V nn B m e = ktV V nn B (e + 1) e := by
  induction m with
  | zero => omega
  | succ m ih =>
    by_cases he : e = m
    · subst he; rfl
    · have : e < m := by omega
      show (if e = m then _ else ktV V nn B m e) = _
      rw [if_neg he, ih this]
theorem ktV_eq {V : pV} {nn : Nat} {B : Nat → Int32} {m k e : Nat} (h : e < m) (h2 : e < k) : ktV V nn B m e = ktV V nn B k e := by rw [ktV_lt h, ktV_lt h2]
theorem ntV_congr {V : pV} {K K' : Nat → Int32} {d k : Nat} (h : ∀ e, e < d → K e = K' e) : ntV V K d k = ntV V K' d k := by
  unfold ntV
  split
  · next h1 => rw [h _ h1.1]
  · rfl
theorem rdV_congr {V : pV} {nn : Nat} {K K' : Nat → Int32} {d : Nat} (h : ∀ e, e < d → K e = K' e) : rdV V nn K d = rdV V nn K' d := by
  unfold rdV
  split
  · exact orN_congr fun k _ => ntV_congr h
  · rfl
/-- whether a day goes well -/
def wlB (V : pV) (K : Nat → Int32) (d : Nat) : Bool := akV V d &&& (K d ^^^ -1) = 0
/-- a row that holds each of 0 .. n less 1 once -/
def isP (p : Nat → Nat) (n : Nat) : Prop := (∀ k, k < n → p k < n) ∧ ∀ i j, i < n → j < n → p i = p j → i = j
theorem xor_neg1 (x : Int32) : x ^^^ -1 = ~~~x := by
  apply Int32.toBitVec_inj.mp
  show x.toBitVec ^^^ (-1 : Int32).toBitVec = ~~~ x.toBitVec
  rw [show (-1 : Int32).toBitVec = BitVec.allOnes 32 from by decide]
  exact BitVec.xor_allOnes
/-- the model's cells as a life -/
def mV (I : fdI) : pV := fun c => match c with
  | 1 => I 2
  | 2 => I 3
  | 3 => I 4
  | 4 => I 5
  | 5 => I 12
  | 6 => I 7
  | 7 => I 8
  | 8 => I 9
  | 9 => I 10
  | 10 => I 11
  | _ => fun j => match j with
    | 0 => I 0 1
    | 1 => I 0 7
    | 2 => I 0 10
    | 3 => I 0 13
    | 5 => I 0 16
    | 6 => I 0 17
    | _ => 0
/-- how many days, notes, pairs, orders told there are, and that all numbers are what they may be -/
def okC (V : pV) (n nn np nt : Nat) : Prop := V 0 0 = nI n ∧ (1 ≤ n ∧ n ≤ 7) ∧ V 0 1 = nI nn ∧ nn ≤ 6 ∧ V 0 2 = nI np ∧ np ≤ 6 ∧ V 0 3 = nI nt ∧ nt ≤ 3
def okD (V : pV) (n nn np : Nat) : Prop := (∀ d, d < 7 → dayP (V 1 d) 6 ∧ dayP (V 2 d) 64 ∧ dayP (V 3 d) 64 ∧ (V 4 d = -1 ∨ dayP (V 4 d) n) ∧ (V 5 d = -1 ∨ dayP (V 5 d) 64)) ∧ (∀ k, k < nn → dayP (V 6 k) n ∧ dayP (V 7 k) 6) ∧ ∀ k, k < np → dayP (V 8 k) n ∧ dayP (V 9 k) n
def fac : Nat → Nat
  | 0 => 1
  | k + 1 => fac k * (k + 1)
theorem fac_le {n : Nat} (h : n ≤ 7) : fac n ≤ 5040 := by
  match n, h with
  | 0, _ => decide
  | 1, _ => decide
  | 2, _ => decide
  | 3, _ => decide
  | 4, _ => decide
  | 5, _ => decide
  | 6, _ => decide
  | 7, _ => decide
theorem fac_pos (n : Nat) : 0 < fac n := by
  induction n with
  | zero => decide
  | succ n ih => exact Nat.mul_pos ih (Nat.succ_pos n)
theorem ktV_n {V : pV} {nn : Nat} {B : Nat → Int32} {n d : Nat} (h : d < n) : ktV V nn B n d = B d ||| rdV V nn (ktV V nn B n) d := by
  rw [ktV_lt h]
  show (if d = d then _ else _) = _
  rw [if_pos rfl]
  congr 1
  exact rdV_congr fun e he => ktV_eq (by omega) (by omega)
theorem lnV_congr {V V' : pV} {d : Nat} (h1 : V' 1 d = V 1 d) (h2 : V' 2 d = V 2 d) (h3 : V' 3 d = V 3 d) : lnV V' d = lnV V d := by simp only [lnV, h1, h2, h3]
theorem akV_congr {V V' : pV} {d : Nat} (h1 : V' 1 d = V 1 d) (h2 : V' 2 d = V 2 d) : akV V' d = akV V d := by simp only [akV, h1, h2]
/-- whether one of the first k -/
def orB (f : Nat → Bool) : Nat → Bool
  | 0 => false
  | k + 1 => orB f k || f k
def anB (f : Nat → Bool) : Nat → Bool
  | 0 => true
  | k + 1 => anB f k && f k
theorem orB_congr {f g : Nat → Bool} {k : Nat} (h : ∀ i, i < k → f i = g i) : orB f k = orB g k := by
  induction k with
  | zero => rfl
  | succ k ih => unfold orB; rw [ih (fun i hi => h i (by omega)), h k (by omega)]
theorem anB_congr {f g : Nat → Bool} {k : Nat} (h : ∀ i, i < k → f i = g i) : anB f k = anB g k := by
  induction k with
  | zero => rfl
  | succ k ih => unfold anB; rw [ih (fun i hi => h i (by omega)), h k (by omega)]
theorem anB_iff {f : Nat → Bool} {k : Nat} : anB f k = true ↔ ∀ i, i < k → f i = true := by
  induction k with
  | zero => simp [anB]
  | succ k ih =>
    unfold anB
    rw [Bool.and_eq_true, ih]
    constructor
    · intro h i hi
      by_cases q : i = k
      · rw [q]; exact h.2
      · exact h.1 i (by omega)
    · intro h
      exact ⟨fun i hi => h i (by omega), h k (by omega)⟩
theorem orB_iff {f : Nat → Bool} {k : Nat} : orB f k = true ↔ ∃ i, i < k ∧ f i = true := by
  induction k with
  | zero => simp [orB]
  | succ k ih =>
    unfold orB
    rw [Bool.or_eq_true, ih]
    constructor
    · intro h
      rcases h with ⟨i, hi, h⟩ | h
      · exact ⟨i, by omega, h⟩
      · exact ⟨k, by omega, h⟩
    · intro ⟨i, hi, h⟩
      by_cases q : i = k
      · rw [q] at h; exact Or.inr h
      · exact Or.inl ⟨i, by omega, h⟩
