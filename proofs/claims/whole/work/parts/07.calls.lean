/-! calls by what the callee's contract says of its answer -/
def fd_is (r : Option Value) (I0 : fdI) (L0 : fdL) : Option Value → fdI → fdL → Prop := fun rv I' L' => rv = r ∧ I' = I0 ∧ L' = L0
theorem fd_isI {r rv : Option Value} {I0 I' : fdI} {L0 L' : fdL} (h : rv = r) (h1 : I' = I0) (h2 : L' = L0) : fd_is r I0 L0 rv I' L' := ⟨h, h1, h2⟩
theorem fd_isi {a b : Int32} {I0 I' : fdI} {L0 L' : fdL} (h : a = b) (h1 : I' = I0) (h2 : L' = L0) : fd_is (some (.int b)) I0 L0 (some (.int a)) I' L' := ⟨by rw [h], h1, h2⟩
def fd_ip (P : Value → fdI → fdL → Prop) : Option Value → fdI → fdL → Prop := fun rv I' L' => ∃ v, rv = some v ∧ P v I' L'
def fd_vp (P : fdI → fdL → Prop) : Option Value → fdI → fdL → Prop := fun rv I' L' => rv = none ∧ P I' L'
def fd_b (c : Prop) [Decidable c] : Int32 := if c then 1 else 0
theorem fd_b01 (c : Prop) [Decidable c] : fd_b c = 0 ∨ fd_b c = 1 := by unfold fd_b; split <;> simp
theorem fd_b_t {c : Prop} [Decidable c] (h : c) : fd_b c = 1 := if_pos h
theorem fd_b_f {c : Prop} [Decidable c] (h : ¬ c) : fd_b c = 0 := if_neg h
theorem fd_b0 {c : Prop} [Decidable c] : fd_b c = 0 ↔ ¬ c := by unfold fd_b; split <;> simp_all
theorem fd_b1 {c : Prop} [Decidable c] : fd_b c = 1 ↔ c := by unfold fd_b; split <;> simp_all
theorem fd_bn {c : Prop} [Decidable c] : ¬ fd_b c = 0 ↔ c := by unfold fd_b; split <;> simp_all
section FDW
variable {S : List fdE} {α : Nat → Nat} {y mz : fdM} {z x : MethodName} {pc idx n : Nat} {lv lv' : List (Nat × Value)} {st st0 av As : List Value} {I I' : fdI} {L L' : fdL} {Q Qz : Option Value → fdI → fdL → Prop}
theorem r_cVr {k ci : Nat} {ks : List Nat} {r : Value} (hc : Con S α z mz (.ref (α k) :: As) I L (fd_is (some r) I' L')) (hlk : fd_lkV y.2.2.1 idx z mz n) (hS0 : S[k]? = some (.inl (ci, ks))) (hcl : (vwCl[ci]?).map (fun r => r.1) = some z.cls) (hd : mz.2.2.2.2 + 1 ≤ y.2.2.2.2) (hm : mz.2.1 ≤ 17) (hn : As.length = n) (hst : As.reverse ++ .ref (α k) :: st = st0) (hcat : (st.map fun v => v.category).sum ≤ 8) (hdg : decode y.1 pc = .ok (.invokevirtual idx, 3)) (K : Rn S α y (pc + 3) lv (r :: st) I' L' Q) : Rn S α y pc lv st0 I L Q := by
  subst hst
  refine r_callV hc hlk hS0 hcl hd hm hn hcat hdg (fun rv J M hq => ?_)
  obtain ⟨rfl, rfl, rfl⟩ := hq
  exact K
theorem r_cVn {k ci : Nat} {ks : List Nat} (hc : Con S α z mz (.ref (α k) :: As) I L (fd_is none I' L')) (hlk : fd_lkV y.2.2.1 idx z mz n) (hS0 : S[k]? = some (.inl (ci, ks))) (hcl : (vwCl[ci]?).map (fun r => r.1) = some z.cls) (hd : mz.2.2.2.2 + 1 ≤ y.2.2.2.2) (hm : mz.2.1 ≤ 17) (hn : As.length = n) (hst : As.reverse ++ .ref (α k) :: st = st0) (hcat : (st.map fun v => v.category).sum ≤ 8) (hdg : decode y.1 pc = .ok (.invokevirtual idx, 3)) (K : Rn S α y (pc + 3) lv st I' L' Q) : Rn S α y pc lv st0 I L Q := by
  subst hst
  refine r_callV hc hlk hS0 hcl hd hm hn hcat hdg (fun rv J M hq => ?_)
  obtain ⟨rfl, rfl, rfl⟩ := hq
  exact K
theorem r_cVp {k ci : Nat} {ks : List Nat} {P : Value → fdI → fdL → Prop} (hc : Con S α z mz (.ref (α k) :: As) I L (fd_ip P)) (hlk : fd_lkV y.2.2.1 idx z mz n) (hS0 : S[k]? = some (.inl (ci, ks))) (hcl : (vwCl[ci]?).map (fun r => r.1) = some z.cls) (hd : mz.2.2.2.2 + 1 ≤ y.2.2.2.2) (hm : mz.2.1 ≤ 17) (hn : As.length = n) (hst : As.reverse ++ .ref (α k) :: st = st0) (hcat : (st.map fun v => v.category).sum ≤ 8) (hdg : decode y.1 pc = .ok (.invokevirtual idx, 3)) (K : ∀ v I' L', P v I' L' → Rn S α y (pc + 3) lv (v :: st) I' L' Q) : Rn S α y pc lv st0 I L Q := by
  subst hst
  refine r_callV hc hlk hS0 hcl hd hm hn hcat hdg (fun rv J M hq => ?_)
  obtain ⟨v, rfl, hq⟩ := hq
  exact K v J M hq
theorem r_cVq {k ci : Nat} {ks : List Nat} {P : fdI → fdL → Prop} (hc : Con S α z mz (.ref (α k) :: As) I L (fd_vp P)) (hlk : fd_lkV y.2.2.1 idx z mz n) (hS0 : S[k]? = some (.inl (ci, ks))) (hcl : (vwCl[ci]?).map (fun r => r.1) = some z.cls) (hd : mz.2.2.2.2 + 1 ≤ y.2.2.2.2) (hm : mz.2.1 ≤ 17) (hn : As.length = n) (hst : As.reverse ++ .ref (α k) :: st = st0) (hcat : (st.map fun v => v.category).sum ≤ 8) (hdg : decode y.1 pc = .ok (.invokevirtual idx, 3)) (K : ∀ I' L', P I' L' → Rn S α y (pc + 3) lv st I' L' Q) : Rn S α y pc lv st0 I L Q := by
  subst hst
  refine r_callV hc hlk hS0 hcl hd hm hn hcat hdg (fun rv J M hq => ?_)
  obtain ⟨rfl, hq⟩ := hq
  exact K J M hq
theorem r_cSr  {r : Value} (hc : Con S α z mz As I L (fd_is (some r) I' L')) (hlk : fd_lkS y.2.2.1 idx z mz n) (hd : mz.2.2.2.2 + 1 ≤ y.2.2.2.2) (hm : mz.2.1 ≤ 17) (hn : As.length = n) (hst : As.reverse ++ st = st0) (hcat : (st.map fun v => v.category).sum ≤ 8) (hdg : decode y.1 pc = .ok (.invokestatic idx, 3)) (K : Rn S α y (pc + 3) lv (r :: st) I' L' Q) : Rn S α y pc lv st0 I L Q := by
  subst hst
  refine r_callS hc hlk hd hm hn hcat hdg (fun rv J M hq => ?_)
  obtain ⟨rfl, rfl, rfl⟩ := hq
  exact K
theorem r_cSn  (hc : Con S α z mz As I L (fd_is none I' L')) (hlk : fd_lkS y.2.2.1 idx z mz n) (hd : mz.2.2.2.2 + 1 ≤ y.2.2.2.2) (hm : mz.2.1 ≤ 17) (hn : As.length = n) (hst : As.reverse ++ st = st0) (hcat : (st.map fun v => v.category).sum ≤ 8) (hdg : decode y.1 pc = .ok (.invokestatic idx, 3)) (K : Rn S α y (pc + 3) lv st I' L' Q) : Rn S α y pc lv st0 I L Q := by
  subst hst
  refine r_callS hc hlk hd hm hn hcat hdg (fun rv J M hq => ?_)
  obtain ⟨rfl, rfl, rfl⟩ := hq
  exact K
theorem r_cSp  {P : Value → fdI → fdL → Prop} (hc : Con S α z mz As I L (fd_ip P)) (hlk : fd_lkS y.2.2.1 idx z mz n) (hd : mz.2.2.2.2 + 1 ≤ y.2.2.2.2) (hm : mz.2.1 ≤ 17) (hn : As.length = n) (hst : As.reverse ++ st = st0) (hcat : (st.map fun v => v.category).sum ≤ 8) (hdg : decode y.1 pc = .ok (.invokestatic idx, 3)) (K : ∀ v I' L', P v I' L' → Rn S α y (pc + 3) lv (v :: st) I' L' Q) : Rn S α y pc lv st0 I L Q := by
  subst hst
  refine r_callS hc hlk hd hm hn hcat hdg (fun rv J M hq => ?_)
  obtain ⟨v, rfl, hq⟩ := hq
  exact K v J M hq
theorem r_cSq  {P : fdI → fdL → Prop} (hc : Con S α z mz As I L (fd_vp P)) (hlk : fd_lkS y.2.2.1 idx z mz n) (hd : mz.2.2.2.2 + 1 ≤ y.2.2.2.2) (hm : mz.2.1 ≤ 17) (hn : As.length = n) (hst : As.reverse ++ st = st0) (hcat : (st.map fun v => v.category).sum ≤ 8) (hdg : decode y.1 pc = .ok (.invokestatic idx, 3)) (K : ∀ I' L', P I' L' → Rn S α y (pc + 3) lv st I' L' Q) : Rn S α y pc lv st0 I L Q := by
  subst hst
  refine r_callS hc hlk hd hm hn hcat hdg (fun rv J M hq => ?_)
  obtain ⟨rfl, hq⟩ := hq
  exact K J M hq
theorem r_cOr {C : String} {k ci : Nat} {ks : List Nat} {r : Value} (hc : Con S α z mz (.ref (α k) :: As) I L (fd_is (some r) I' L')) (hlk : fd_lkO y.2.2.1 idx C x z mz n) (hS0 : S[k]? = some (.inl (ci, ks))) (hcl : (vwCl[ci]?).map (fun r => r.1) = some C) (hd : mz.2.2.2.2 + 1 ≤ y.2.2.2.2) (hm : mz.2.1 ≤ 17) (hn : As.length = n) (hst : As.reverse ++ .ref (α k) :: st = st0) (hcat : (st.map fun v => v.category).sum ≤ 8) (hdg : decode y.1 pc = .ok (.invokevirtual idx, 3)) (K : Rn S α y (pc + 3) lv (r :: st) I' L' Q) : Rn S α y pc lv st0 I L Q := by
  subst hst
  refine r_callO hc hlk hS0 hcl hd hm hn hcat hdg (fun rv J M hq => ?_)
  obtain ⟨rfl, rfl, rfl⟩ := hq
  exact K
theorem r_cOn {C : String} {k ci : Nat} {ks : List Nat} (hc : Con S α z mz (.ref (α k) :: As) I L (fd_is none I' L')) (hlk : fd_lkO y.2.2.1 idx C x z mz n) (hS0 : S[k]? = some (.inl (ci, ks))) (hcl : (vwCl[ci]?).map (fun r => r.1) = some C) (hd : mz.2.2.2.2 + 1 ≤ y.2.2.2.2) (hm : mz.2.1 ≤ 17) (hn : As.length = n) (hst : As.reverse ++ .ref (α k) :: st = st0) (hcat : (st.map fun v => v.category).sum ≤ 8) (hdg : decode y.1 pc = .ok (.invokevirtual idx, 3)) (K : Rn S α y (pc + 3) lv st I' L' Q) : Rn S α y pc lv st0 I L Q := by
  subst hst
  refine r_callO hc hlk hS0 hcl hd hm hn hcat hdg (fun rv J M hq => ?_)
  obtain ⟨rfl, rfl, rfl⟩ := hq
  exact K
theorem r_cOp {C : String} {k ci : Nat} {ks : List Nat} {P : Value → fdI → fdL → Prop} (hc : Con S α z mz (.ref (α k) :: As) I L (fd_ip P)) (hlk : fd_lkO y.2.2.1 idx C x z mz n) (hS0 : S[k]? = some (.inl (ci, ks))) (hcl : (vwCl[ci]?).map (fun r => r.1) = some C) (hd : mz.2.2.2.2 + 1 ≤ y.2.2.2.2) (hm : mz.2.1 ≤ 17) (hn : As.length = n) (hst : As.reverse ++ .ref (α k) :: st = st0) (hcat : (st.map fun v => v.category).sum ≤ 8) (hdg : decode y.1 pc = .ok (.invokevirtual idx, 3)) (K : ∀ v I' L', P v I' L' → Rn S α y (pc + 3) lv (v :: st) I' L' Q) : Rn S α y pc lv st0 I L Q := by
  subst hst
  refine r_callO hc hlk hS0 hcl hd hm hn hcat hdg (fun rv J M hq => ?_)
  obtain ⟨v, rfl, hq⟩ := hq
  exact K v J M hq
theorem r_cOq {C : String} {k ci : Nat} {ks : List Nat} {P : fdI → fdL → Prop} (hc : Con S α z mz (.ref (α k) :: As) I L (fd_vp P)) (hlk : fd_lkO y.2.2.1 idx C x z mz n) (hS0 : S[k]? = some (.inl (ci, ks))) (hcl : (vwCl[ci]?).map (fun r => r.1) = some C) (hd : mz.2.2.2.2 + 1 ≤ y.2.2.2.2) (hm : mz.2.1 ≤ 17) (hn : As.length = n) (hst : As.reverse ++ .ref (α k) :: st = st0) (hcat : (st.map fun v => v.category).sum ≤ 8) (hdg : decode y.1 pc = .ok (.invokevirtual idx, 3)) (K : ∀ I' L', P I' L' → Rn S α y (pc + 3) lv st I' L' Q) : Rn S α y pc lv st0 I L Q := by
  subst hst
  refine r_callO hc hlk hS0 hcl hd hm hn hcat hdg (fun rv J M hq => ?_)
  obtain ⟨rfl, hq⟩ := hq
  exact K J M hq
theorem r_cNr {r : Value} (hc : Con S α yX10_isFact mX10_isFact As I L (fd_is (some r) I' L')) (ho : y.2.2.1 = RX5) (hd : mX10_isFact.2.2.2.2 + 1 ≤ y.2.2.2.2) (hn : As.length = 1) (hst : As.reverse ++ st = st0) (hcat : (st.map fun v => v.category).sum ≤ 8) (hdg : decode y.1 pc = .ok (.invokestatic 85, 3)) (K : Rn S α y (pc + 3) lv (r :: st) I' L' Q) : Rn S α y pc lv st0 I L Q := by
  subst hst
  refine r_callN ho hc (by decide) (fd_in 394 (by decide +kernel) (by decide +kernel)) (fd_in 61 (by decide +kernel) (by decide +kernel)) (fd_in 395 (by decide +kernel) (by decide +kernel)) (by decide +kernel) hd (by decide) hn hcat hdg (fun rv J M hq => ?_)
  obtain ⟨rfl, rfl, rfl⟩ := hq
  exact K
theorem r_getV {k ci j idx : Nat} {ks : List Nat} {v : Int32} (hS : S[k]? = some (.inl (ci, ks))) (hj : ks[j]? = some (0)) (hfl : fd_fl y.2.2.1 idx ci j) (hdg : decode y.1 pc = .ok (.getfield idx, 3)) (hv : I k j = v) (K : Rn S α y (pc + 3) lv (.int v :: st) I L Q) : Rn S α y pc lv (.ref (α k) :: st) I L Q := by
  subst hv
  exact r_getI hS hj hfl hdg K
theorem r_ialdN {k n j : Nat} {v : Int32} (hS0 : S[k]? = some (.inr (.inl (0, n)))) (hdg : decode y.1 pc = .ok (.iaload, 1)) (hj : j < n) (hn : n < 2 ^ 31) (hv : I k j = v) (K : Rn S α y (pc + 1) lv (.int v :: st) I L Q) : Rn S α y pc lv (.int (nI j) :: .ref (α k) :: st) I L Q := by
  subst hv
  refine r_iald hS0 hdg (vp_in_nI hj hn) ?_
  rw [nI_clamp (by omega)]
  exact K
theorem r_iastN {k n j : Nat} {x : Int32} (hS0 : S[k]? = some (.inr (.inl (0, n)))) (hdg : decode y.1 pc = .ok (.iastore, 1)) (hj : j < n) (hn : n < 2 ^ 31) (K : Rn S α y (pc + 1) lv st (fd_up I k j x) L Q) : Rn S α y pc lv (.int x :: .int (nI j) :: .ref (α k) :: st) I L Q := by
  refine r_iast hS0 hdg (vp_in_nI hj hn) ?_
  rw [nI_clamp (by omega)]
  exact K
theorem r_zaldN {k n j : Nat} {v : Int32} (hS0 : S[k]? = some (.inr (.inl (1, n)))) (hdg : decode y.1 pc = .ok (.baload, 1)) (hj : j < n) (hn : n < 2 ^ 31) (hv : I k j = v) (K : Rn S α y (pc + 1) lv (.int v :: st) I L Q) : Rn S α y pc lv (.int (nI j) :: .ref (α k) :: st) I L Q := by
  subst hv
  refine r_zald hS0 hdg (vp_in_nI hj hn) ?_
  rw [nI_clamp (by omega)]
  exact K
theorem r_zastN {k n j : Nat} {x : Int32} (hS0 : S[k]? = some (.inr (.inl (1, n)))) (hx : x = 0 ∨ x = 1) (hdg : decode y.1 pc = .ok (.bastore, 1)) (hj : j < n) (hn : n < 2 ^ 31) (K : Rn S α y (pc + 1) lv st (fd_up I k j x) L Q) : Rn S α y pc lv (.int x :: .int (nI j) :: .ref (α k) :: st) I L Q := by
  refine r_zast hS0 hx hdg (vp_in_nI hj hn) ?_
  rw [nI_clamp (by omega)]
  exact K
theorem r_baldN {k n j : Nat} {v : Int32} (hS0 : S[k]? = some (.inr (.inl (2, n)))) (hdg : decode y.1 pc = .ok (.baload, 1)) (hj : j < n) (hn : n < 2 ^ 31) (hv : I k j = v) (K : Rn S α y (pc + 1) lv (.int v :: st) I L Q) : Rn S α y pc lv (.int (nI j) :: .ref (α k) :: st) I L Q := by
  subst hv
  refine r_bald hS0 hdg (vp_in_nI hj hn) ?_
  rw [nI_clamp (by omega)]
  exact K
theorem r_bastN {k n j : Nat} {x : Int32} (hS0 : S[k]? = some (.inr (.inl (2, n)))) (hx : x.toInt8.toInt32 = x) (hdg : decode y.1 pc = .ok (.bastore, 1)) (hj : j < n) (hn : n < 2 ^ 31) (K : Rn S α y (pc + 1) lv st (fd_up I k j x) L Q) : Rn S α y pc lv (.int x :: .int (nI j) :: .ref (α k) :: st) I L Q := by
  refine r_bast hS0 hx hdg (vp_in_nI hj hn) ?_
  rw [nI_clamp (by omega)]
  exact K
end FDW
theorem fd_down {P : Nat → Prop} {n : Nat} (h : ∀ k, k ≤ n → (k < n → P (k + 1)) → P k) : ∀ k, k ≤ n → P k := by
  have : ∀ m k, m + k = n → P k := by
    intro m
    induction m with
    | zero => intro k hk; exact h k (by omega) (fun q => by omega)
    | succ m ih => intro k hk; exact h k (by omega) (fun _ => ih (k + 1) (by omega))
  intro k hk
  exact this (n - k) k (by omega)
