/-! ===== the law: its judgement over the two objects, and its rows ===== -/
/-- what the law's frame stands on -/
def lwF (αX αM : Nat → Nat) (dC : Nat → ClassId) (dI : Nat → Nat → Nat) (dA : Nat → ClassId) (b n : Nat) (xs : Nat → Int32) (p : Program) (s : State) (m : MethodId) (meth : Method) (c : Code) : Prop :=
  p.tables.exec = Jvm.exec ∧ c.code = code ∧ c.maxLocals = 4 ∧ s.vm.findClass "ShuffledDaysLaw" = some m.cls ∧ meth.sig.returnType = ret ∧ meth.locks = false ∧ (∀ w ∈ fd_tb, w.before #[Value.ref b] s = true) ∧ va_K (dC, dI) vwCl (fd_tys dA) s ∧ (va_X b n xs s s.heap ∧ b < s.heap.size) ∧ fd_PF αX (fun q => s.heap.size ≤ q) s s.heap ∧ fd_PF αM (fun q => s.heap.size ≤ q) s s.heap
/-- the end that the law comes to -/
def lwZ (b : Nat) (below : List Frame) (s : State) : State → Prop := fun t => ∃ o, t.status = .running ∧ Ended t below o ∧ (o = .returned (some (.int 1)) ∧ Framed s o t [] 600000 7302250)
def LR (αX αM : Nat → Nat) (b n : Nat) (xs : Nat → Int32) (pc : Nat) (lv : List (Nat × Value)) (st : List Value) (I : fdI) (L : fdL) (J : fdI) (M : fdL) : Prop :=
  ∀ (p : Program) (l : Launch) (e : Env) (s : State) (m : MethodId) (below : List Frame) (meth : Method) (c : Code) (dC : Nat → ClassId) (dI : Nat → Nat → Nat) (dA : Nat → ClassId), lwF αX αM dC dI dA b n xs p s m meth c →
  ∀ (H : Heap) (locs : List Loc) (ls : Array Slot), va_P (dC, dI) vwCl (fd_ws fd_SX αX dA I L) H → va_P (dC, dI) vwCl (fd_ws fd_SM αM dA J M) H → va_D (fun q => s.heap.size ≤ q) (fd_ws fd_SX αX dA I L ++ fd_ws fd_SM αM dA J M) → va_S (fun q => s.heap.size ≤ q) s.heap H locs → lv_has ls 4 lv →
  W p l e room_1 s m #[Value.ref b] below meth c H locs 600000 7302250 (lwZ b below s) (F0 m pc ls st)
section LAWR
variable {αX αM : Nat → Nat} {b n : Nat} {xs : Nat → Int32} {pc : Nat} {lv lv' : List (Nat × Value)} {st : List Value} {I J : fdI} {L M : fdL}
theorem L_keep (ks : List Nat) (hl' : fd_pk lv ks = lv') (K : LR αX αM b n xs pc lv' st I L J M) : LR αX αM b n xs pc lv st I L J M := by
  subst hl'
  intro p l e s m below meth c dC dI dA F H locs ls hPX hPM hD hS hl
  exact K p l e s m below meth c dC dI dA F H locs ls hPX hPM hD hS (fd_pk_has hl ks)
theorem L_aload_n {k : Fin 4} {x : Nat} (hdg : decode code pc = .ok (.aload_n k, 1)) (hk : fd_lk lv k.val = some (.ref x)) (K : LR αX αM b n xs (pc + 1) lv (.ref x :: st) I L J M) : LR αX αM b n xs pc lv (st) I L J M := by
  intro p l e s m below meth c dC dI dA F H locs ls hPX hPM hD hS hl
  exact lv_aload_n F.1 F.2.1 hdg rfl (fd_lk_at hl hk) (K p l e s m below meth c dC dI dA F H locs ls hPX hPM hD hS hl)
theorem L_iload_n {k : Fin 4} {x : Int32} (hdg : decode code pc = .ok (.iload_n k, 1)) (hk : fd_lk lv k.val = some (.int x)) (K : LR αX αM b n xs (pc + 1) lv (.int x :: st) I L J M) : LR αX αM b n xs pc lv (st) I L J M := by
  intro p l e s m below meth c dC dI dA F H locs ls hPX hPM hD hS hl
  exact lv_iload_n F.1 F.2.1 hdg rfl (fd_lk_at hl hk) (K p l e s m below meth c dC dI dA F H locs ls hPX hPM hD hS hl)
theorem L_iconst {z : Int} {v : Int32} (hdg : decode code pc = .ok (.iconst z, 1)) (hv : Int32.ofInt z = v) (K : LR αX αM b n xs (pc + 1) lv (.int v :: st) I L J M) : LR αX αM b n xs pc lv (st) I L J M := by
  intro p l e s m below meth c dC dI dA F H locs ls hPX hPM hD hS hl
  exact lv_iconst F.1 F.2.1 hdg hv (K p l e s m below meth c dC dI dA F H locs ls hPX hPM hD hS hl)
theorem L_bipush {z : Int} {v : Int32} (hdg : decode code pc = .ok (.bipush z, 2)) (hv : (Int8.ofInt z).toInt32 = v) (K : LR αX αM b n xs (pc + 2) lv (.int v :: st) I L J M) : LR αX αM b n xs pc lv (st) I L J M := by
  intro p l e s m below meth c dC dI dA F H locs ls hPX hPM hD hS hl
  exact lv_bipush F.1 F.2.1 hdg hv (K p l e s m below meth c dC dI dA F H locs ls hPX hPM hD hS hl)
theorem L_iadd {x z : Int32} (hdg : decode code pc = .ok (.iadd, 1)) (K : LR αX αM b n xs (pc + 1) lv (.int (x + z) :: st) I L J M) : LR αX αM b n xs pc lv (.int z :: .int x :: st) I L J M := by
  intro p l e s m below meth c dC dI dA F H locs ls hPX hPM hD hS hl
  exact lv_iadd F.1 F.2.1 hdg (K p l e s m below meth c dC dI dA F H locs ls hPX hPM hD hS hl)
theorem L_isub {x z : Int32} (hdg : decode code pc = .ok (.isub, 1)) (K : LR αX αM b n xs (pc + 1) lv (.int (x - z) :: st) I L J M) : LR αX αM b n xs pc lv (.int z :: .int x :: st) I L J M := by
  intro p l e s m below meth c dC dI dA F H locs ls hPX hPM hD hS hl
  exact lv_isub F.1 F.2.1 hdg (K p l e s m below meth c dC dI dA F H locs ls hPX hPM hD hS hl)
theorem L_iand {x z : Int32} (hdg : decode code pc = .ok (.iand, 1)) (K : LR αX αM b n xs (pc + 1) lv (.int (x &&& z) :: st) I L J M) : LR αX αM b n xs pc lv (.int z :: .int x :: st) I L J M := by
  intro p l e s m below meth c dC dI dA F H locs ls hPX hPM hD hS hl
  exact lv_iand F.1 F.2.1 hdg (K p l e s m below meth c dC dI dA F H locs ls hPX hPM hD hS hl)
theorem L_iinc {i : Nat} {z : Int} {x v : Int32} (hdg : decode code pc = .ok (.iinc i z, 3)) (hk : fd_lk lv i = some (.int x)) (hv : x + Int32.ofInt z = v) (hn : i < 4) (hl' : fd_s1 lv i (.int v) = lv') (K : LR αX αM b n xs (pc + 3) lv' (st) I L J M) : LR αX αM b n xs pc lv (st) I L J M := by
  intro p l e s m below meth c dC dI dA F H locs ls hPX hPM hD hS hl
  obtain ⟨k, hk2⟩ := fd_lk_pl hk
  exact lv_iinc F.1 F.2.1 hdg hl hk2 hv hn hl' (fun ls hl => K p l e s m below meth c dC dI dA F H locs ls hPX hPM hD hS hl)
theorem L_goto {off : Int} {tgt : Nat} (hdg : decode code pc = .ok (.goto off, 3)) (ht : (pc : Int) + off = (tgt : Int)) (K : LR αX αM b n xs tgt lv st I L J M) : LR αX αM b n xs pc lv st I L J M := by
  intro p l e s m below meth c dC dI dA F H locs ls hPX hPM hD hS hl
  exact lv_goto F.1 F.2.1 hdg ht (K p l e s m below meth c dC dI dA F H locs ls hPX hPM hD hS hl)
theorem L_icmp_eq {x z : Int32} {off : Int} (tgt : Nat) (hdg : decode code pc = .ok (.if_icmp .eq off, 3)) (ht : (pc : Int) + off = (tgt : Int)) (KT : x = z → LR αX αM b n xs tgt lv st I L J M) (KF : ¬ x = z → LR αX αM b n xs (pc + 3) lv st I L J M) : LR αX αM b n xs pc lv (.int z :: .int x :: st) I L J M := by
  intro p l e s m below meth c dC dI dA F H locs ls hPX hPM hD hS hl
  exact lv_icmp_eq F.1 F.2.1 hdg ht (fun h => KT h p l e s m below meth c dC dI dA F H locs ls hPX hPM hD hS hl) (fun h => KF h p l e s m below meth c dC dI dA F H locs ls hPX hPM hD hS hl)
theorem L_icmp_gt {x z : Int32} {off : Int} (tgt : Nat) (hdg : decode code pc = .ok (.if_icmp .gt off, 3)) (ht : (pc : Int) + off = (tgt : Int)) (KT : z < x → LR αX αM b n xs tgt lv st I L J M) (KF : ¬ z < x → LR αX αM b n xs (pc + 3) lv st I L J M) : LR αX αM b n xs pc lv (.int z :: .int x :: st) I L J M := by
  intro p l e s m below meth c dC dI dA F H locs ls hPX hPM hD hS hl
  exact lv_icmp_gt F.1 F.2.1 hdg ht (fun h => KT h p l e s m below meth c dC dI dA F H locs ls hPX hPM hD hS hl) (fun h => KF h p l e s m below meth c dC dI dA F H locs ls hPX hPM hD hS hl)
theorem L_if_eq {x : Int32} {off : Int} (tgt : Nat) (hdg : decode code pc = .ok (.ifCond .eq off, 3)) (ht : (pc : Int) + off = (tgt : Int)) (KT : x = 0 → LR αX αM b n xs tgt lv st I L J M) (KF : ¬ x = 0 → LR αX αM b n xs (pc + 3) lv st I L J M) : LR αX αM b n xs pc lv (.int x :: st) I L J M := by
  intro p l e s m below meth c dC dI dA F H locs ls hPX hPM hD hS hl
  exact lv_if_eq F.1 F.2.1 hdg ht (fun h => KT h p l e s m below meth c dC dI dA F H locs ls hPX hPM hD hS hl) (fun h => KF h p l e s m below meth c dC dI dA F H locs ls hPX hPM hD hS hl)
theorem L_lcmp {x z : Int64} (hdg : decode code pc = .ok (.lcmp, 1)) (K : LR αX αM b n xs (pc + 1) lv (.int (lg_cmp x z) :: st) I L J M) : LR αX αM b n xs pc lv (.long z :: .long x :: st) I L J M := by
  intro p l e s m below meth c dC dI dA F H locs ls hPX hPM hD hS hl
  exact W.lcmp F.1 F.2.1 hdg (K p l e s m below meth c dC dI dA F H locs ls hPX hPM hD hS hl)
theorem L_tswOut {dflt lo hi : Int} {offs : Array Int} {len : Nat} {x : Int32} {tgt : Nat} (hdg : decode code pc = .ok (.tableswitch dflt lo hi offs, len)) (h : x.toInt < lo ∨ hi < x.toInt) (ht : (pc : Int) + dflt = (tgt : Int)) (K : LR αX αM b n xs tgt lv st I L J M) : LR αX αM b n xs pc lv (.int x :: st) I L J M := by
  intro p l e s m below meth c dC dI dA F H locs ls hPX hPM hD hS hl
  exact lv_tableOut F.1 F.2.1 hdg h ht (K p l e s m below meth c dC dI dA F H locs ls hPX hPM hD hS hl)
theorem L_tswIn {dflt lo hi : Int} {offs : Array Int} {len : Nat} {x : Int32} {off : Int} {tgt : Nat} (hdg : decode code pc = .ok (.tableswitch dflt lo hi offs, len)) (h1 : ¬ x.toInt < lo) (h2 : ¬ hi < x.toInt) (ho : offs[(x.toInt - lo).toNat]? = some off) (ht : (pc : Int) + off = (tgt : Int)) (K : LR αX αM b n xs tgt lv st I L J M) : LR αX αM b n xs pc lv (.int x :: st) I L J M := by
  intro p l e s m below meth c dC dI dA F H locs ls hPX hPM hD hS hl
  exact lv_tableIn F.1 F.2.1 hdg h1 h2 ho ht (K p l e s m below meth c dC dI dA F H locs ls hPX hPM hD hS hl)
theorem L_sld {i : Int32} (hdg : decode code pc = .ok (.iaload, 1)) (hin : vp_in i n) (K : LR αX αM b n xs (pc + 1) lv (.int (xs i.toNatClampNeg) :: st) I L J M) : LR αX αM b n xs pc lv (.int i :: .ref b :: st) I L J M := by
  intro p l e s m below meth c dC dI dA F H locs ls hPX hPM hD hS hl
  exact va_sld F.1 F.2.1 F.2.2.2.2.2.2.2.2.1.1 F.2.2.2.2.2.2.2.2.1.2 (Nat.not_le.mpr F.2.2.2.2.2.2.2.2.1.2) hS hin hdg (K p l e s m below meth c dC dI dA F H locs ls hPX hPM hD hS hl)
theorem L_slen (hdg : decode code pc = .ok (.arraylength, 1)) (K : LR αX αM b n xs (pc + 1) lv (.int (nI n) :: st) I L J M) : LR αX αM b n xs pc lv (.ref b :: st) I L J M := by
  intro p l e s m below meth c dC dI dA F H locs ls hPX hPM hD hS hl
  exact va_slen F.1 F.2.1 F.2.2.2.2.2.2.2.2.1.1 F.2.2.2.2.2.2.2.2.1.2 (Nat.not_le.mpr F.2.2.2.2.2.2.2.2.1.2) hS hdg (K p l e s m below meth c dC dI dA F H locs ls hPX hPM hD hS hl)
theorem L_ret (hdg : decode code pc = .ok (.ireturn, 1)) : LR αX αM b n xs pc lv [.int 1] I L J M := by
  intro p l e s m below meth c dC dI dA F H locs ls hPX hPM hD hS hl
  refine va_forget hS.2.2 ?_
  intro T hT X
  have hr := F.2.2.2.2.1
  have hx := F.1
  have hb := F.2.1
  have hlocks := F.2.2.2.2.2.1
  obtain ⟨fs, hret, hrun, hended, hW, hframe⟩ := X.leave (v := some (.int 1)) (hlocks := hlocks) (fun h => by rw [hr] at h; cases h)
  have hmeth' : T.vm.method? m = some meth := X.method'
  refine ⟨T.setFrames fs, ?_, .returned (some (.int 1)), hrun, hended, rfl, ⟨_, rfl⟩, hW, hframe⟩
  jvm_step X.here [X.here.top, hx, hb, hdg, hmeth', hr, ret, narrow_b1]
  (try refine ⟨rfl, ?_⟩); (try refine ⟨rfl, ?_⟩)
  first | (intro acts; rw [hret _ acts rfl rfl rfl]) | rw [hret _ _ rfl rfl rfl]
  exact Steps.refl _
theorem va_D.flip {A : Nat → Prop} {w1 w2 : va_W} (h : va_D A (w1 ++ w2)) : va_D A (w2 ++ w1) := va_D.app h.tail h.head (fun i j p q hi hj e => by
  have h1 := (List.getElem?_eq_some_iff.mp hj).1
  have := h.1 j (w1.length + i) q p (by rw [List.getElem?_append_left h1]; exact hj) (by rw [List.getElem?_append_right (by omega)]; rw [Nat.add_sub_cancel_left]; exact hi) e.symm
  omega)
theorem fd_D2 {S S2 : List fdE} {α α2 : Nat → Nat} {dA : Nat → ClassId} {I I' J J' : fdI} {L L' M M' : fdL} {A : Nat → Prop} (h : va_D A (fd_ws S α dA I L ++ fd_ws S2 α2 dA J M)) : va_D A (fd_ws S α dA I' L' ++ fd_ws S2 α2 dA J' M') := by
  refine va_D.app (fd_D h.head) (fd_D h.tail) (fun i j p q hi hj e => ?_)
  obtain ⟨e1, h1⟩ := fd_wsP (I' := I) (L' := L) hi
  obtain ⟨e2, h2⟩ := fd_wsP (I' := J) (L' := M) hj
  have hl := (List.getElem?_eq_some_iff.mp h1).1
  have := h.1 i ((fd_ws S α dA I L).length + j) (p.1, e1) (q.1, e2) (by rw [List.getElem?_append_left hl]; exact h1) (by rw [List.getElem?_append_right (by omega)]; rw [Nat.add_sub_cancel_left]; exact h2) e
  omega
theorem L_callX {z : MethodName} {mz : fdM} {k ci na idx : Nat} {ks : List Nat} {As : List Value} {Qz : Option Value → fdI → fdL → Prop} (hc : Con fd_SX αX z mz (.ref (αX k) :: As) I L Qz) (hlk : fd_lkV "ShuffledDaysLaw" idx z mz na) (hS0 : fd_SX[k]? = some (.inl (ci, ks))) (hcl : (vwCl[ci]?).map (fun r => r.1) = some z.cls) (hd : mz.2.2.2.2 ≤ 12) (hm : mz.2.1 ≤ 17) (hn : As.length = na) (hcat : (st.map fun v => v.category).sum ≤ 8) (hdg : decode code pc = .ok (.invokevirtual idx, 3))
    (K : ∀ (rv : Option Value) (I' : fdI) (L' : fdL), Qz rv I' L' → LR αX αM b n xs (pc + 3) lv (rv.toList ++ st) I' L' J M) : LR αX αM b n xs pc lv (As.reverse ++ .ref (αX k) :: st) I L J M := by
  intro p l e s m below meth c dC dI dA F H locs ls hPX hPM hD hS hl
  obtain ⟨k1, k2, k3, k4, k5, k6, k7, k8⟩ := hlk
  have hA : ∀ q, s.heap.size ≤ q → (fun q => s.heap.size ≤ q) q := fun _ h => h
  have hD1 := hD.flip
  have F' : fd_Fix fd_SX αX (code, 4, "ShuffledDaysLaw", ret, 13) p s m #[Value.ref b] meth c (fun q => s.heap.size ≤ q) dC dI dA := ⟨F.1, F.2.1, F.2.2.1, F.2.2.2.1, F.2.2.2.2.1, F.2.2.2.2.2.1, F.2.2.2.2.2.2.1, F.2.2.2.2.2.2.2.1, fun I' L' => fd_D hD1.tail, F.2.2.2.2.2.2.2.2.2.1, hA⟩
  have hg := fd_get fd_SX αX dA I L hS0
  have hrc : ∃ q : vw_C, vwCl[ci]? = some q ∧ q.1 = z.cls := by
    cases hq : vwCl[ci]? with
    | none => rw [hq] at hcl; cases hcl
    | some q => rw [hq] at hcl; exact ⟨q, rfl, Option.some.inj hcl⟩
  obtain ⟨q, hq, hqc⟩ := hrc
  have hrv := va_recv F.2.2.2.2.2.2.2.1 hPX hq hg
  rw [hqc] at hrv
  refine g_cont (w0 := fd_ws fd_SM αM dA J M) hA hPM hPX hD1 hS (va_runV (As := As) (C := z.cls) (own := "ShuffledDaysLaw") (n := na) ⟨F.1, F.2.1, F.2.2.1, F.2.2.2.1, F.2.2.2.2.2.2.1⟩ (hc l dC dI dA H.size) (cwV na F.2.2.2.2.2.2.1 (fd_gi ?_) rfl rfl rfl ⟨rfl, k6, k7, k8⟩ ⟨?_, ?_⟩) ⟨fd_blind, hrv, fd_pre F' hPX hS⟩ rfl hn hl.1 rfl (lv_room hcat) hdg ⟨Nat.le_refl _, Nat.le_refl _⟩) (fun rv I' L' hq H1 locs1 hP0 hP1 hS1 => K rv I' L' hq p l e s m below meth c dC dI dA F H1 locs1 ls hP1 hP0 (fd_D2 hD) hS1 hl)
  · intro w hw
    simp only [wsV, List.cons_append, List.nil_append, List.mem_cons] at hw
    rcases hw with rfl | rfl | rfl | rfl | rfl | hw
    · exact k1
    · exact k2
    · exact k3
    · exact k4
    · exact k5
    · exact hw
  · show mz.2.2.2.2 + 1 ≤ 13
    omega
  · show 8 + (mz.2.1 + 11) + 36 * mz.2.2.2.2 ≤ 472
    omega
theorem L_callM {z : MethodName} {mz : fdM} {k ci na idx : Nat} {ks : List Nat} {As : List Value} {Qz : Option Value → fdI → fdL → Prop} (hc : Con fd_SM αM z mz (.ref (αM k) :: As) J M Qz) (hlk : fd_lkV "ShuffledDaysLaw" idx z mz na) (hS0 : fd_SM[k]? = some (.inl (ci, ks))) (hcl : (vwCl[ci]?).map (fun r => r.1) = some z.cls) (hd : mz.2.2.2.2 ≤ 12) (hm : mz.2.1 ≤ 17) (hn : As.length = na) (hcat : (st.map fun v => v.category).sum ≤ 8) (hdg : decode code pc = .ok (.invokevirtual idx, 3))
    (K : ∀ (rv : Option Value) (I' : fdI) (L' : fdL), Qz rv I' L' → LR αX αM b n xs (pc + 3) lv (rv.toList ++ st) I L I' L') : LR αX αM b n xs pc lv (As.reverse ++ .ref (αM k) :: st) I L J M := by
  intro p l e s m below meth c dC dI dA F H locs ls hPX hPM hD hS hl
  obtain ⟨k1, k2, k3, k4, k5, k6, k7, k8⟩ := hlk
  have hA : ∀ q, s.heap.size ≤ q → (fun q => s.heap.size ≤ q) q := fun _ h => h
  have hD1 := hD
  have F' : fd_Fix fd_SM αM (code, 4, "ShuffledDaysLaw", ret, 13) p s m #[Value.ref b] meth c (fun q => s.heap.size ≤ q) dC dI dA := ⟨F.1, F.2.1, F.2.2.1, F.2.2.2.1, F.2.2.2.2.1, F.2.2.2.2.2.1, F.2.2.2.2.2.2.1, F.2.2.2.2.2.2.2.1, fun I' L' => fd_D hD1.tail, F.2.2.2.2.2.2.2.2.2.2, hA⟩
  have hg := fd_get fd_SM αM dA J M hS0
  have hrc : ∃ q : vw_C, vwCl[ci]? = some q ∧ q.1 = z.cls := by
    cases hq : vwCl[ci]? with
    | none => rw [hq] at hcl; cases hcl
    | some q => rw [hq] at hcl; exact ⟨q, rfl, Option.some.inj hcl⟩
  obtain ⟨q, hq, hqc⟩ := hrc
  have hrv := va_recv F.2.2.2.2.2.2.2.1 hPM hq hg
  rw [hqc] at hrv
  refine g_cont (w0 := fd_ws fd_SX αX dA I L) hA hPX hPM hD1 hS (va_runV (As := As) (C := z.cls) (own := "ShuffledDaysLaw") (n := na) ⟨F.1, F.2.1, F.2.2.1, F.2.2.2.1, F.2.2.2.2.2.2.1⟩ (hc l dC dI dA H.size) (cwV na F.2.2.2.2.2.2.1 (fd_gi ?_) rfl rfl rfl ⟨rfl, k6, k7, k8⟩ ⟨?_, ?_⟩) ⟨fd_blind, hrv, fd_pre F' hPM hS⟩ rfl hn hl.1 rfl (lv_room hcat) hdg ⟨Nat.le_refl _, Nat.le_refl _⟩) (fun rv I' L' hq H1 locs1 hP0 hP1 hS1 => K rv I' L' hq p l e s m below meth c dC dI dA F H1 locs1 ls hP0 hP1 (fd_D2 hD) hS1 hl)
  · intro w hw
    simp only [wsV, List.cons_append, List.nil_append, List.mem_cons] at hw
    rcases hw with rfl | rfl | rfl | rfl | rfl | hw
    · exact k1
    · exact k2
    · exact k3
    · exact k4
    · exact k5
    · exact hw
  · show mz.2.2.2.2 + 1 ≤ 13
    omega
  · show 8 + (mz.2.1 + 11) + 36 * mz.2.2.2.2 ≤ 472
    omega
end LAWR
