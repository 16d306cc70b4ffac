/-! the orders of the days, by ranks: how the model makes the row of a rank, the next row, the rank of a row -/
/-- the day that is found: behind so many that are left over -/
def rwI (met : Nat) : Nat → Nat → Nat → Nat
  | 0, _, d => d
  | f + 1, skip, d => bif Nat.beq (met / 2 ^ d % 2) 1 then rwI met f skip (d + 1) else bif Nat.ble 1 skip then rwI met f (skip - 1) (d + 1) else d
def rwG (met : Nat) : Nat → Nat → Nat → Bool
  | 0, _, _ => false
  | f + 1, skip, d => Nat.ble d 6 && bif Nat.beq (met / 2 ^ d % 2) 1 then rwG met f skip (d + 1) else bif Nat.ble 1 skip then rwG met f (skip - 1) (d + 1) else true
/-- the rest of the row, m days of it -/
def rwP : Nat → Nat → Nat → Nat → List Nat
  | 0, _, _, _ => []
  | m + 1, left, size, met => rwI met 8 (left / (size / (m + 1))) 0 :: rwP m (left % (size / (m + 1))) (size / (m + 1)) (met ||| 2 ^ rwI met 8 (left / (size / (m + 1))) 0)
def rwGd : Nat → Nat → Nat → Nat → Bool
  | 0, _, _, _ => true
  | m + 1, left, size, met => Nat.ble 1 (size / (m + 1)) && (Nat.ble met 127 && (Nat.ble left 5039 && (Nat.ble size 5040 && (rwG met 8 (left / (size / (m + 1))) 0 && rwGd m (left % (size / (m + 1))) (size / (m + 1)) (met ||| 2 ^ rwI met 8 (left / (size / (m + 1))) 0)))))
def prL (n r : Nat) : List Nat := rwP n r (fac n) 0
def gtL : List Nat → Nat → Nat
  | [], _ => 0
  | a :: _, 0 => a
  | _ :: l, k + 1 => gtL l k
def prm (n r : Nat) : Nat → Nat := gtL (prL n r)
/-- the place behind which the row falls to its end -/
def nxA (p : Nat → Nat) : Nat → Nat
  | 0 => 0
  | i + 1 => bif Nat.ble (p (i + 1) + 1) (p i) then nxA p i else i + 1
def nxB (p : Nat → Nat) (x : Nat) : Nat → Nat
  | 0 => 0
  | b + 1 => bif Nat.ble (p (b + 1) + 1) x then nxB p x b else b + 1
def nxS (p : Nat → Nat) (a b : Nat) : Nat → Nat := fun k => bif Nat.beq k b then p a else bif Nat.beq k a then p b else p k
def nxR (p : Nat → Nat) (i j : Nat) : Nat → Nat := fun k => bif Nat.ble i k && Nat.ble k j then p (i + j - k) else p k
def nxQ (p : Nat → Nat) (n : Nat) : Nat → Nat := bif Nat.beq (nxA p (n - 1)) 0 then p else nxS p (nxA p (n - 1) - 1) (nxB p (p (nxA p (n - 1) - 1)) (n - 1))
def nxP (p : Nat → Nat) (n : Nat) : Nat → Nat := nxR (nxQ p n) (nxA p (n - 1)) (n - 1)
/-- how many of the next m are less -/
def lsF (p : Nat → Nat) (k : Nat) : Nat → Nat
  | 0 => 0
  | m + 1 => bif Nat.ble (p (k + 1 + m) + 1) (p k) then lsF p k m + 1 else lsF p k m
def rkF (p : Nat → Nat) (n : Nat) : Nat → Nat
  | 0 => 0
  | k + 1 => rkF p n k * (n - k) + lsF p k (n - 1 - k)
def nodupL : List Nat → Bool
  | [] => true
  | a :: l => l.all (fun b => !(Nat.beq a b)) && nodupL l
def eqL : List Nat → List Nat → Bool
  | [], [] => true
  | a :: l, b :: m => Nat.beq a b && eqL l m
  | _, _ => false
def eqP : Nat → (Nat → Nat) → (Nat → Nat) → Bool
  | 0, _, _ => true
  | k + 1, f, g => Nat.beq (f k) (g k) && eqP k f g
def gdR (n r : Nat) : Bool :=
  rwGd n r (fac n) 0 && ((prL n r).all (fun a => Nat.ble (a + 1) n) && (nodupL (prL n r) && (Nat.beq (rkF (prm n r) n n) r && (Nat.beq (r + 1) (fac n) || (eqP n (nxP (prm n r) n) (prm n (r + 1)) && !(Nat.beq (nxA (prm n r) (n - 1)) 0))))))
def alN (f : Nat → Bool) : Nat → Bool
  | 0 => true
  | k + 1 => f k && alN f k
theorem alN_at {f : Nat → Bool} {m : Nat} (h : alN f m = true) : ∀ k, k < m → f k = true := by
  induction m with
  | zero => intro k hk; omega
  | succ m ih =>
    intro k hk
    unfold alN at h
    rw [Bool.and_eq_true] at h
    by_cases q : k = m
    · rw [q]; exact h.1
    · exact ih h.2 k (by omega)
theorem gd1 : alN (gdR 1) 1 = true := by decide +kernel
theorem gd2 : alN (gdR 2) 2 = true := by decide +kernel
theorem gd3 : alN (gdR 3) 6 = true := by decide +kernel
theorem gd4 : alN (gdR 4) 24 = true := by decide +kernel
theorem gd5 : alN (gdR 5) 120 = true := by decide +kernel
theorem gd6 : alN (gdR 6) 720 = true := by decide +kernel
