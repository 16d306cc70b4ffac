/-! ===== constructors: an int[4][7]; calls of methods ===== -/
section KON2
variable {ρ : Nat → Nat} {dC : Nat → ClassId} {dI : Nat → Nat → Nat} {dA : Nat → ClassId} {y mz : fdM} {z : MethodName} {mc ms pc : Nat} {lv lv' : List (Nat × Value)} {st : List Value} {ws w0 : va_W} {cells slots : Nat} {Q : va_W → Prop}
abbrev k_four (q : Nat) : Nat → Option Nat := fun j => [q + 1, q + 2, q + 3, q + 4][j]?
theorem k_outer (cA : ClassId) (h : Nat) : Jvm.Free.Multi.outerC cA 4 h 4 = vp_cell cA (4, .inr (.inr (.inr (.inr (k_four h))))) := by
  rw [vp_cell_q]
  show (((({ cls := cA, slots := Array.replicate 4 .null, vm := .none } : Cell).setSlot 0 (.ref (h + 1 + 0))).setSlot 1 (.ref (h + 1 + 1))).setSlot 2 (.ref (h + 1 + 2))).setSlot 3 (.ref (h + 1 + 3)) = _
  rw [arrV_new, arrV_store, arrV_store, arrV_store, arrV_store]
  congr 1
  funext j
  match j with
  | 0 => rfl
  | 1 => rfl
  | 2 => rfl
  | 3 => rfl
  | j + 4 => simp [updV, va_rf]
theorem k_inner (cA : ClassId) (n : Nat) : Jvm.Free.Multi.innerC cA n (defaultValue .int) = vp_cell cA (n, .inl (fun _ => 0)) := by
  rw [vp_cell_i, ← arrV_new]
  rfl
abbrev k_grid (dA : Nat → ClassId) (q : Nat) : va_W := [(q, .inl (dA 5, 4, .inr (.inr (.inr (.inr (k_four q)))))), (q + 1, .inl (dA 0, 7, .inl (fun _ => 0))), (q + 2, .inl (dA 0, 7, .inl (fun _ => 0))), (q + 3, .inl (dA 0, 7, .inl (fun _ => 0))), (q + 4, .inl (dA 0, 7, .inl (fun _ => 0)))]
theorem k_gridA {dA : Nat → ClassId} {q : Nat} : ∀ (k : Nat) (x : Nat × va_E), (k_grid dA q)[k]? = some x → x.1 = q + k := by
  intro k x hx
  match k, hx with
  | 0, hx => cases hx; rfl
  | 1, hx => cases hx; rfl
  | 2, hx => cases hx; rfl
  | 3, hx => cases hx; rfl
  | 4, hx => cases hx; rfl
  | k + 5, hx => simp [k_grid] at hx
theorem k_mul {idx c' s' : Nat} (hcl : Cond.classLink y.2.2.1 idx "[[I" ∈ fd_tb) (harr : Cond.arrayClass .int ∈ fd_tb) (hc : cells + 5 = c') (hs : slots + 32 = s') (hcm : c' ≤ mc) (hsm : s' ≤ ms) (hdg : decode y.1 pc = .ok (.multianewarray idx 2, 4))
    (K : ∀ q : Nat, Rk ρ dC dI dA y mc ms (pc + 4) lv (.ref q :: st) (ws ++ k_grid dA q) c' s' Q) : Rk ρ dC dI dA y mc ms pc lv (.int 7 :: .int 4 :: st) ws cells slots Q := by
  intro p l e s m args below meth c A F hin H locs ls hP hD hS hl T hT X
  subst hc; subst hs
  have h4 : (4 : Int32).toNatClampNeg = 4 := by decide
  have h7 : (7 : Int32).toNatClampNeg = 7 := by decide
  obtain ⟨vm₁, cA, comp, hW1, hfA, hfC, hO, hI, X1, step⟩ := X.multianewarray2F F.1 (own := y.2.2.1) (index := idx) (ty := .int) F.2.2.2.1 (F.2.2.2.2.2.2.1 _ hcl) hin.2.2.2.2.use (F.2.2.2.2.2.2.1 _ harr)
    (g := F0 m pc ls (.int 7 :: .int 4 :: st)) rfl (by rw [F.2.1]; exact hdg) (n := 4) (k := 7) (rest := st) rfl (by decide) (by decide) (by rw [h4]; decide) (by rw [h7]; decide) (by rw [h7]; decide) rfl rfl (by rw [h4]; show cells + 5 ≤ mc; omega) (by rw [h4, h7]; show slots + 32 ≤ ms; omega)
  rw [h4, h7] at X1 step
  have hcA : cA = dA 5 := Option.some.inj (hfA.symm.trans (F.2.2.2.2.2.2.2.1.2 5 _ rfl).2)
  have hcm : comp = dA 0 := Option.some.inj (hfC.symm.trans (F.2.2.2.2.2.2.2.1.2 0 _ rfl).2)
  subst hcA; subst hcm
  obtain ⟨f1, f2, -, -⟩ := Jvm.Free.Multi.fill_facts (T.setVm vm₁) (dA 5) (dA 0) 4 7 (defaultValue .int) 4
  have fo : ∀ q, q < H.size → (Jvm.Free.Multi.fill (T.setVm vm₁) (dA 5) (dA 0) 4 7 (defaultValue .int) 4).heap[q]? = H[q]? := fun q hq => by
    rw [Jvm.Free.Multi.fill_old (T.setVm vm₁) (dA 5) (dA 0) 4 7 (defaultValue .int) (a := q) (by show q < T.heap.size; rw [hT]; exact hq) 4]
    show T.heap[q]? = _
    rw [hT]
  have fi : ∀ j, j < 4 → (Jvm.Free.Multi.fill (T.setVm vm₁) (dA 5) (dA 0) 4 7 (defaultValue .int) 4).heap[H.size + 1 + j]? = some (vp_cell (dA 0) (7, .inl (fun _ => 0))) := fun j hj => by
    have h := Jvm.Free.Multi.fill_inner (T.setVm vm₁) (dA 5) (dA 0) 4 7 (defaultValue .int) 4 j hj
    rw [k_inner] at h
    rw [← hT]
    exact h
  have fO : (Jvm.Free.Multi.fill (T.setVm vm₁) (dA 5) (dA 0) 4 7 (defaultValue .int) 4).heap[H.size]? = some (vp_cell (dA 5) (4, .inr (.inr (.inr (.inr (k_four H.size)))))) := by
    have h : (Jvm.Free.Multi.fill (T.setVm vm₁) (dA 5) (dA 0) 4 7 (defaultValue .int) 4).heap[T.heap.size]? = some (Jvm.Free.Multi.outerC (dA 5) 4 T.heap.size 4) := f2
    rw [k_outer, hT] at h
    exact h
  have fz : (Jvm.Free.Multi.fill (T.setVm vm₁) (dA 5) (dA 0) 4 7 (defaultValue .int) 4).heap.size = H.size + 5 := by
    have h : (Jvm.Free.Multi.fill (T.setVm vm₁) (dA 5) (dA 0) 4 7 (defaultValue .int) 4).heap.size = T.heap.size + 1 + 4 := f1
    rw [hT] at h
    exact h
  have hP' : va_P (dC, dI) vwCl (ws ++ k_grid dA H.size) (Jvm.Free.Multi.fill (T.setVm vm₁) (dA 5) (dA 0) 4 7 (defaultValue .int) 4).heap := by
    refine (hP.kept (fun k x hx => fo x.1 (hP k x hx).lt)).app (fun k x hx => ?_)
    match k, hx with
    | 0, hx => cases hx; exact fO
    | 1, hx => cases hx; exact fi 0 (by decide)
    | 2, hx => cases hx; exact fi 1 (by decide)
    | 3, hx => cases hx; exact fi 2 (by decide)
    | 4, hx => cases hx; exact fi 3 (by decide)
    | k + 5, hx => simp [k_grid] at hx
  have hD' : va_D A (ws ++ k_grid dA H.size) := by
    refine va_D.app hD ⟨fun i j p q hi hj e => ?_, fun k q hk => ?_⟩ (fun i j p q hi hj => ?_)
    · have h1 := k_gridA i p hi
      have h2 := k_gridA j q hj
      omega
    · rw [k_gridA k q hk]
      exact F.2.2.2.2.2.2.2.2.2.2 _ (Nat.le_trans hS.1 (by omega))
    · have h1 := k_gridA j q hj
      have h2 : p.1 < H.size := (hP i p hi).lt
      omega
  have hS' : va_S A s.heap (Jvm.Free.Multi.fill (T.setVm vm₁) (dA 5) (dA 0) 4 7 (defaultValue .int) 4).heap locs := ⟨Nat.le_trans hS.1 (by rw [fz]; omega), fun x h1 h2 => (fo x (Nat.lt_of_lt_of_le h1 hS.1)).trans (hS.2.1 x h1 h2), hS.2.2⟩
  obtain ⟨t, a1, b1⟩ := K H.size p l e s m args below meth c A F hin _ locs ls hP' hD' hS' hl _ rfl X1
  refine ⟨t, step t ?_, b1⟩
  rw [hT]
  exact a1
def fd_ul (α : Nat → Nat) (I : fdI) (L : fdL) (k : Nat) : List Nat → Nat → List Value
  | [], _ => []
  | kd :: ks, j => fd_fv α I L k j kd :: fd_ul α I L k ks (j + 1)
def fd_el (α : Nat → Nat) (dA : Nat → ClassId) (I : fdI) (L : fdL) (k : Nat) (e : fdE) : va_E := match e with
  | .inl (ci, ks) => .inr (ci, fd_ul α I L k ks 0)
  | .inr (.inl (t, n)) => .inl (dA t, n, .inl (I k))
  | .inr (.inr (t, rs)) => .inl (dA t, rs.length, .inr (.inr (.inr (.inr (fun j => (rs[j]?).map α)))))
def fd_wl (α : Nat → Nat) (dA : Nat → ClassId) (I : fdI) (L : fdL) : List fdE → Nat → va_W
  | [], _ => []
  | e :: S, k => (α k, fd_el α dA I L k e) :: fd_wl α dA I L S (k + 1)
theorem fd_ul_eq {α : Nat → Nat} {I : fdI} {L : fdL} {k : Nat} : ∀ (ks : List Nat) (j : Nat), ks.mapIdx (fun i kd => fd_fv α I L k (j + i) kd) = fd_ul α I L k ks j
  | [], j => rfl
  | kd :: ks, j => by
    rw [List.mapIdx_cons]
    show _ :: _ = _ :: _
    congr 1
    rw [← fd_ul_eq ks (j + 1)]
    congr 1
    funext i kd
    rw [show j + (i + 1) = j + 1 + i by omega]
theorem fd_el_eq {α : Nat → Nat} {dA : Nat → ClassId} {I : fdI} {L : fdL} {k : Nat} {e : fdE} : fd_en α dA I L k e = fd_el α dA I L k e := by
  match e with
  | .inl (ci, ks) =>
    show (Sum.inr (ci, _) : va_E) = .inr (ci, _)
    have h := fd_ul_eq (α := α) (I := I) (L := L) (k := k) ks 0
    simp only [Nat.zero_add] at h
    rw [h]
  | .inr (.inl (t, n)) => rfl
  | .inr (.inr (t, rs)) => rfl
theorem fd_wl_eq' {α : Nat → Nat} {dA : Nat → ClassId} {I : fdI} {L : fdL} : ∀ (S : List fdE) (k : Nat), S.mapIdx (fun i e => (α (k + i), fd_en α dA I L (k + i) e)) = fd_wl α dA I L S k
  | [], k => rfl
  | e :: S, k => by
    rw [List.mapIdx_cons]
    show _ :: _ = _ :: _
    rw [← fd_wl_eq' S (k + 1), fd_el_eq]
    congr 1
    congr 1
    funext i e
    rw [show k + (i + 1) = k + 1 + i by omega]
theorem fd_wl_eq {α : Nat → Nat} {dA : Nat → ClassId} {I : fdI} {L : fdL} {S : List fdE} : fd_ws S α dA I L = fd_wl α dA I L S 0 := by
  rw [← fd_wl_eq']
  simp only [Nat.zero_add]
  rfl
theorem fd_PF.to {α : Nat → Nat} {A : Nat → Prop} {U : State} {H : Heap} (h : fd_PF ρ A U H) (hα : ∀ i, α (1000 + i) = ρ (1000 + i)) : fd_PF α A U H := by
  have e1 : (fun i => α (1001 + i)) = fun i => ρ (1001 + i) := funext fun i => by have := hα (1 + i); rwa [← Nat.add_assoc] at this
  have e2 : (fun i => α (1011 + i)) = fun i => ρ (1011 + i) := funext fun i => by have := hα (11 + i); rwa [← Nat.add_assoc] at this
  have e3 : ∀ i, α (1001 + i) = ρ (1001 + i) := fun i => congrFun e1 i
  have e0 : α 1000 = ρ 1000 := hα 0
  unfold fd_PF at h ⊢
  rw [e0, e1, e2]
  simp only [e3]
  exact h
/-- behind a call of a method whose world is S: the others' cells stay -/
theorem g_cont {S : List fdE} {α : Nat → Nat} {I : fdI} {L : fdL} {Qz : Option Value → fdI → fdL → Prop} {p : Program} {l : Launch} {e : Env} {s : State} {m : MethodId} {args : Array Value} {below : List Frame} {meth : Method} {c : Code} {A : Nat → Prop} {R : Room} {Qm : State → Prop} {st0 : List Value} {a : Array Value} {H : Heap} {locs : List Loc} {ls : Array Slot} (hA : ∀ q, s.heap.size ≤ q → A q) (hP0 : va_P (dC, dI) vwCl w0 H) (hP : va_P (dC, dI) vwCl (fd_ws S α dA I L) H) (hD : va_D A (w0 ++ fd_ws S α dA I L)) (hS : va_S A s.heap H locs)
    (hr : va_Run p l e R s m args below meth c H locs cells slots 0 0 (F0 m pc ls st0) st (fd_Q S α dC dI dA (va_A (fd_ws S α dA I L) H.size) Qz a) (va_A (fd_ws S α dA I L) H.size))
    (K : ∀ (rv : Option Value) (I' : fdI) (L' : fdL), Qz rv I' L' → ∀ (H1 : Heap) (locs1 : List Loc), va_P (dC, dI) vwCl w0 H1 → va_P (dC, dI) vwCl (fd_ws S α dA I' L') H1 → va_S A s.heap H1 locs1 → W p l e R s m args below meth c H1 locs1 cells slots Qm (F0 m (pc + 3) ls (rv.toList ++ st))) : W p l e R s m args below meth c H locs cells slots Qm (F0 m pc ls st0) := by
  have hF : ∀ q, va_A (fd_ws S α dA I L) H.size q → A q := k_in hA hD.tail hS
  intro T hT X
  obtain ⟨v, st₀, t, T', L1, h0, X', hL, e1, e2, ⟨⟨rv, I', L', hv, hq, hP1⟩, hz, hk⟩, hst⟩ := hr T hT X
  cases hv
  rw [h0] at hz hk
  obtain ⟨j1, -⟩ := k_joinE hA (va_P.app hP0 hP) hD hS hk hP1 (fd_D hD.tail.self)
  obtain ⟨t2, a1, b1⟩ := K v I' L' hq T'.heap (locs ++ L1) (by rw [e1]; exact j1.head) (by rw [e1]; exact hP1)
    ⟨Nat.le_trans hS.1 (by rw [e1]; exact hz), fun q h1 h2 => by rw [e1, hk q (Nat.lt_of_lt_of_le h1 hS.1) (fun z => h2 (hF q z))]; exact hS.2.1 q h1 h2, fun q hq => by
      rcases List.mem_append.mp hq with h | h
      · exact hS.2.2 q h
      · exact hF _ (hL q h)⟩ T' rfl X'
  exact ⟨t2, hst t2 a1, b1⟩
theorem k_conV {S : List fdE} {α : Nat → Nat} {I : fdI} {L : fdL} {Qz : Option Value → fdI → fdL → Prop} {As : List Value} {k ci n idx : Nat} {ks : List Nat} (hα : ∀ i, α (1000 + i) = ρ (1000 + i)) (hc : Con S α z mz (.ref (α k) :: As) I L Qz) (hlk : fd_lkV y.2.2.1 idx z mz n) (hS0 : S[k]? = some (.inl (ci, ks))) (hcl : (vwCl[ci]?).map (fun r => r.1) = some z.cls) (hd : mz.2.2.2.2 + 1 ≤ y.2.2.2.2) (hm : mz.2.1 ≤ 17) (hn : As.length = n) (hcat : (st.map fun v => v.category).sum ≤ 8) (hw : ws = fd_wl α dA I L S 0) (hcm : cells ≤ mc) (hsm : slots ≤ ms) (hdg : decode y.1 pc = .ok (.invokevirtual idx, 3))
    (K : ∀ (rv : Option Value) (I' : fdI) (L' : fdL), Qz rv I' L' → Rk ρ dC dI dA y mc ms (pc + 3) lv (rv.toList ++ st) (fd_wl α dA I' L' S 0) cells slots Q) : Rk ρ dC dI dA y mc ms pc lv (As.reverse ++ .ref (α k) :: st) ws cells slots Q := by
  intro p l e s m args below meth c A F hin H locs ls hP hD hS hl
  rw [← fd_wl_eq] at hw
  subst hw
  obtain ⟨k1, k2, k3, k4, k5, k6, k7, k8⟩ := hlk
  have F' : fd_Fix S α y p s m args meth c A dC dI dA := by
    obtain ⟨g1, g2, g3, g4, g5, g6, g7, g8, g9, g10, g11⟩ := F
    exact ⟨g1, g2, g3, g4, g5, g6, g7, g8, fun I' L' => fd_D hD, g10.to hα, g11⟩
  have hg := fd_get S α dA I L hS0
  have hrc : ∃ q : vw_C, vwCl[ci]? = some q ∧ q.1 = z.cls := by
    cases hq : vwCl[ci]? with
    | none => rw [hq] at hcl; cases hcl
    | some q => rw [hq] at hcl; exact ⟨q, rfl, Option.some.inj hcl⟩
  obtain ⟨q, hq, hqc⟩ := hrc
  have hrv := va_recv F.2.2.2.2.2.2.2.1 hP hq hg
  rw [hqc] at hrv
  refine g_cont (w0 := []) F.2.2.2.2.2.2.2.2.2.2 (fun k q h => by simp at h) hP hD hS (va_runV (As := As) (C := z.cls) (own := y.2.2.1) (n := n) ⟨F.1, F.2.1, F.2.2.1, F.2.2.2.1, F.2.2.2.2.2.2.1⟩ (hc l dC dI dA H.size) (cwV n F.2.2.2.2.2.2.1 (fd_gi ?_) rfl rfl rfl ⟨rfl, k6, k7, k8⟩ ⟨hd, ?_⟩) ⟨fd_blind, hrv, fd_pre F' hP hS⟩ rfl hn hl.1 rfl (lv_room hcat) hdg ⟨hcm, hsm⟩) (fun rv I' L' hq H1 locs1 _ hP1 hS1 => by
    have K' := K rv I' L' hq
    rw [← fd_wl_eq] at K'
    exact K' p l e s m args below meth c A F hin H1 locs1 ls hP1 (fd_D hD) hS1 hl)
  · intro w hw
    simp only [wsV, List.cons_append, List.nil_append, List.mem_cons] at hw
    rcases hw with rfl | rfl | rfl | rfl | rfl | hw
    · exact k1
    · exact k2
    · exact k3
    · exact k4
    · exact k5
    · exact hw
  · show 8 + (mz.2.1 + 11) + 36 * mz.2.2.2.2 ≤ 36 * y.2.2.2.2
    omega
end KON2
