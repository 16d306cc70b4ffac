/-! ===== constructors: one judgement over a growing world ===== -/
def kAO (ty : FieldType) (U : State) : Prop := (Cond.arrayOver ty).before #[] U = true
theorem kAO.of {ty : FieldType} {A : Array Value} {U : State} (h : (Cond.arrayOver ty).before A U = true) : kAO ty U := h
theorem kAO.use {ty : FieldType} {A : Array Value} {U : State} (h : kAO ty U) : (Cond.arrayOver ty).before A U = true := h
theorem kAO.moved {ty : FieldType} {u U : State} (hvm : u.vm.Alike U.vm) (h : kAO ty u) : kAO ty U := by
  have h1 : (Cond.arrayOver ty).before #[] (u.setVm U.vm) = true := by rw [Cond.arrayOver_setVmC hvm]; exact h
  unfold Cond.before Cond.holds at h1
  unfold kAO Cond.before Cond.holds
  simp only [Cond.value] at h1 ⊢
  exact h1
def k_nest : List Cond := [.methodLinkNest "ShuffledDays" 35 ⟨"ShuffledDays$Text", "<init>", "()V"⟩ "ShuffledDays", .methodLinkNest "ShuffledDays" 42 ⟨"ShuffledDays$Course", "<init>", "()V"⟩ "ShuffledDays", .methodLinkNest "ShuffledDays" 49 ⟨"ShuffledDays$NoteSearch", "<init>", "()V"⟩ "ShuffledDays", .methodLinkNest "ShuffledDays" 71 ⟨"ShuffledDays$PlainDay", "<init>", "()V"⟩ "ShuffledDays", .methodLinkNest "ShuffledDays" 74 ⟨"ShuffledDays$ChildDay", "<init>", "()V"⟩ "ShuffledDays", .methodLinkNest "ShuffledDays$ChildDay" 1 ⟨"ShuffledDays$PlainDay", "<init>", "()V"⟩ "ShuffledDays", .methodLinkNest "ShuffledDays" 77 ⟨"ShuffledDays$IllDay", "<init>", "()V"⟩ "ShuffledDays", .methodLinkNest "ShuffledDays$IllDay" 1 ⟨"ShuffledDays$PlainDay", "<init>", "()V"⟩ "ShuffledDays", .methodLinkNest "ShuffledDays" 80 ⟨"ShuffledDays$BusyDay", "<init>", "()V"⟩ "ShuffledDays", .methodLinkNest "ShuffledDays$BusyDay" 1 ⟨"ShuffledDays$PlainDay", "<init>", "()V"⟩ "ShuffledDays", .methodLinkNest "ShuffledDays" 83 ⟨"ShuffledDays$SchoolDay", "<init>", "()V"⟩ "ShuffledDays", .methodLinkNest "ShuffledDays$SchoolDay" 1 ⟨"ShuffledDays$ChildDay", "<init>", "()V"⟩ "ShuffledDays", .methodLinkNest "ShuffledDays" 86 ⟨"ShuffledDays$DreamDay", "<init>", "()V"⟩ "ShuffledDays", .methodLinkNest "ShuffledDays$DreamDay" 1 ⟨"ShuffledDays$IllDay", "<init>", "()V"⟩ "ShuffledDays", .castable "ShuffledDays$ChildDay" "ShuffledDays$PlainDay", .castable "ShuffledDays$IllDay" "ShuffledDays$PlainDay", .castable "ShuffledDays$BusyDay" "ShuffledDays$PlainDay", .castable "ShuffledDays$SchoolDay" "ShuffledDays$PlainDay", .castable "ShuffledDays$DreamDay" "ShuffledDays$PlainDay"]
def kN (U : State) : Prop := (∀ w ∈ k_nest, va_Nw w U) ∧ kAO (.object "ShuffledDays$PlainDay") U ∧ kAO (.object "ShuffledDays$Life") U ∧ kAO (.array .int) U
theorem kN.at {s U : State} (h : kN s) (hW : s.WarmedH U.vm) : kN U := by
  refine ⟨?_, h.2.1.moved hW.alike, h.2.2.1.moved hW.alike, h.2.2.2.moved hW.alike⟩
  intro w hw
  have h := h.1 w hw
  simp only [k_nest, List.mem_cons, List.not_mem_nil, or_false] at hw
  rcases hw with rfl | rfl | rfl | rfl | rfl | rfl | rfl | rfl | rfl | rfl | rfl | rfl | rfl | rfl | rfl | rfl | rfl | rfl | rfl
  · exact va_Nw.warmM hW h
  · exact va_Nw.warmM hW h
  · exact va_Nw.warmM hW h
  · exact va_Nw.warmM hW h
  · exact va_Nw.warmM hW h
  · exact va_Nw.warmM hW h
  · exact va_Nw.warmM hW h
  · exact va_Nw.warmM hW h
  · exact va_Nw.warmM hW h
  · exact va_Nw.warmM hW h
  · exact va_Nw.warmM hW h
  · exact va_Nw.warmM hW h
  · exact va_Nw.warmM hW h
  · exact va_Nw.warmM hW h
  · exact va_Nw.warmC hW h
  · exact va_Nw.warmC hW h
  · exact va_Nw.warmC hW h
  · exact va_Nw.warmC hW h
  · exact va_Nw.warmC hW h
theorem kN.vm {u U : State} (h : kN u) (hv : U.vm = u.vm) : kN U := by
  have ha : u.vm.Alike U.vm := by rw [hv]; exact Vm.Alike.refl u.vm
  refine ⟨?_, h.2.1.moved ha, h.2.2.1.moved ha, h.2.2.2.moved ha⟩
  intro w hw
  have h := h.1 w hw
  simp only [k_nest, List.mem_cons, List.not_mem_nil, or_false] at hw
  rcases hw with rfl | rfl | rfl | rfl | rfl | rfl | rfl | rfl | rfl | rfl | rfl | rfl | rfl | rfl | rfl | rfl | rfl | rfl | rfl <;> exact va_Nw.same rfl hv.symm h
def kRm (d mc ms : Nat) : Room := { frames := d, cells := mc, slots := ms, locals := 36 * d }
def kQ (dC : Nat → ClassId) (dI : Nat → Nat → Nat) (A : Nat → Prop) (Q : va_W → Prop) : Array Value → State → Outcome → State → Prop := fun _ st oc t => (∃ ws' : va_W, oc = .returned none ∧ Q ws' ∧ va_P (dC, dI) vwCl ws' t.heap ∧ va_D A ws') ∧ va_F A st t
/-- the judgement of a constructor: at this place, with this world, so many cells and slots made -/
def Rk (ρ : Nat → Nat) (dC : Nat → ClassId) (dI : Nat → Nat → Nat) (dA : Nat → ClassId) (y : fdM) (mc ms pc : Nat) (lv : List (Nat × Value)) (st : List Value) (ws : va_W) (cells slots : Nat) (Q : va_W → Prop) : Prop :=
  ∀ (p : Program) (l : Launch) (e : Env) (s : State) (m : MethodId) (args : Array Value) (below : List Frame) (meth : Method) (c : Code) (A : Nat → Prop), fd_Fix [] ρ y p s m args meth c A dC dI dA → meth.name = "<init>" ∧ kN s →
  ∀ (H : Heap) (locs : List Loc) (ls : Array Slot), va_P (dC, dI) vwCl ws H → va_D A ws → va_S A s.heap H locs → lv_has ls y.2.1 lv →
  W p l e (kRm y.2.2.2.2 mc ms) s m args below meth c H locs cells slots (MQ below (kQ dC dI A Q) args s mc ms A) (F0 m pc ls st)
abbrev k_Pc (ρ : Nat → Nat) (dC : Nat → ClassId) (dI : Nat → Nat → Nat) (dA : Nat → ClassId) (av : List Value) (ws : va_W) (sz : Nat) : Array Value → State → Prop := va_Pc av (fun U => U.heap.size = sz ∧ va_P (dC, dI) vwCl ws U.heap ∧ va_K (dC, dI) vwCl (fd_tys dA) U ∧ va_D (fun _ => True) ws ∧ fd_PF ρ (va_A ws sz) U U.heap ∧ kN U)
/-- a constructor's contract -/
def KCon (ρ : Nat → Nat) (dC : Nat → ClassId) (dI : Nat → Nat → Nat) (dA : Nat → ClassId) (z : MethodName) (mi : fdM) (mc ms : Nat) (av : List Value) (ws : va_W) (Q : va_W → Prop) : Prop :=
  ∀ (l : Launch) (sz : Nat), Met l z (.code z mi.1 mi.2.1 mi.2.2.2.1 :: fd_tb) (kRm mi.2.2.2.2 mc ms) (k_Pc ρ dC dI dA av ws sz) (kQ dC dI (va_A ws sz) Q) mc ms (va_A ws sz)
section KON
variable {ρ : Nat → Nat} {dC : Nat → ClassId} {dI : Nat → Nat → Nat} {dA : Nat → ClassId} {y mz : fdM} {z : MethodName} {mc ms pc : Nat} {lv lv' : List (Nat × Value)} {st : List Value} {ws w0 : va_W} {cells slots : Nat} {Q Q1 : va_W → Prop}
theorem fd_nil {A : Nat → Prop} {α : Nat → Nat} {dA : Nat → ClassId} : ∀ I L, va_D A (fd_ws [] α dA I L) := fun I L => ⟨fun i j p q h => by simp [fd_ws] at h, fun k q h => by simp [fd_ws] at h⟩
theorem KCon.of (hy : plainName z.cls = true) (hc : mz.2.2.1 = z.cls) (hz : z.name = "<init>") {av : List Value} (hn : (lg_sl av).length ≤ mz.2.1) (h : Rk ρ dC dI dA mz mc ms 0 (lv_args 0 av) [] ws 0 0 Q) : KCon ρ dC dI dA z mz mc ms av ws Q := by
  intro l sz
  refine Met.ofW (cc := mz.1) (maxL := mz.2.1) (ret := mz.2.2.2.1) hy rfl ?_
  intro p e s m args below meth c s₁ B hml hv
  obtain ⟨rfl, hsz, hP, hK, hD0, hPF, hN⟩ := hv
  have hts := atoms_spec (ws := .code z mz.1 mz.2.1 mz.2.2.2.1 :: fd_tb) B.pre
  have hown : s.vm.findClass z.cls = some m.cls := findClass_of_methodNamed B.named
  subst hsz
  have hD := hD0.self (sz := s.heap.size)
  have hl := lv_entry av (n := mz.2.1) hn
  rw [lg_entry_eq]
  exact h p l e s m _ below meth c (va_A ws s.heap.size) ⟨B.exec, B.bytes, hml, by rw [hc]; exact hown, B.returns, B.notSynchronized, fun w hw => hts w (List.mem_cons_of_mem _ hw), hK, fd_nil, hPF, fun q hq => Or.inr hq⟩ ⟨(name_of_methodNamed B.named B.method).1.trans hz, hN⟩ s.heap [] _ hP hD va_S.rf hl
theorem k_aload_n {k : Fin 4} {x : Nat} (hdg : decode y.1 pc = .ok (.aload_n k, 1)) (hk : fd_lk lv k.val = some (.ref x)) (K : Rk ρ dC dI dA y mc ms (pc + 1) lv (.ref x :: st) ws cells slots Q) : Rk ρ dC dI dA y mc ms pc lv (st) ws cells slots Q := by
  intro p l e s m args below meth c A F hin H locs ls hP hD hS hl
  exact lv_aload_n F.1 F.2.1 hdg rfl (fd_lk_at hl hk) (K p l e s m args below meth c A F hin H locs ls hP hD hS hl)
theorem k_iload_n {k : Fin 4} {x : Int32} (hdg : decode y.1 pc = .ok (.iload_n k, 1)) (hk : fd_lk lv k.val = some (.int x)) (K : Rk ρ dC dI dA y mc ms (pc + 1) lv (.int x :: st) ws cells slots Q) : Rk ρ dC dI dA y mc ms pc lv (st) ws cells slots Q := by
  intro p l e s m args below meth c A F hin H locs ls hP hD hS hl
  exact lv_iload_n F.1 F.2.1 hdg rfl (fd_lk_at hl hk) (K p l e s m args below meth c A F hin H locs ls hP hD hS hl)
theorem k_istore_n {k : Fin 4} {x : Int32} (hdg : decode y.1 pc = .ok (.istore_n k, 1)) (hn : k.val < y.2.1) (hl' : fd_s1 lv k.val (.int x) = lv') (K : Rk ρ dC dI dA y mc ms (pc + 1) lv' (st) ws cells slots Q) : Rk ρ dC dI dA y mc ms pc lv (.int x :: st) ws cells slots Q := by
  intro p l e s m args below meth c A F hin H locs ls hP hD hS hl
  exact lv_istore_n F.1 F.2.1 hdg rfl hl hn hl' (fun ls hl => K p l e s m args below meth c A F hin H locs ls hP hD hS hl)
theorem k_iinc {i : Nat} {n : Int} {x v : Int32} (hdg : decode y.1 pc = .ok (.iinc i n, 3)) (hk : fd_lk lv i = some (.int x)) (hv : x + Int32.ofInt n = v) (hn : i < y.2.1) (hl' : fd_s1 lv i (.int v) = lv') (K : Rk ρ dC dI dA y mc ms (pc + 3) lv' (st) ws cells slots Q) : Rk ρ dC dI dA y mc ms pc lv (st) ws cells slots Q := by
  intro p l e s m args below meth c A F hin H locs ls hP hD hS hl
  obtain ⟨k, hk2⟩ := fd_lk_pl hk
  exact lv_iinc F.1 F.2.1 hdg hl hk2 hv hn hl' (fun ls hl => K p l e s m args below meth c A F hin H locs ls hP hD hS hl)
theorem k_iconst {n : Int} {v : Int32} (hdg : decode y.1 pc = .ok (.iconst n, 1)) (hv : Int32.ofInt n = v) (K : Rk ρ dC dI dA y mc ms (pc + 1) lv (.int v :: st) ws cells slots Q) : Rk ρ dC dI dA y mc ms pc lv (st) ws cells slots Q := by
  intro p l e s m args below meth c A F hin H locs ls hP hD hS hl
  exact lv_iconst F.1 F.2.1 hdg hv (K p l e s m args below meth c A F hin H locs ls hP hD hS hl)
theorem k_bipush {n : Int} {v : Int32} (hdg : decode y.1 pc = .ok (.bipush n, 2)) (hv : (Int8.ofInt n).toInt32 = v) (K : Rk ρ dC dI dA y mc ms (pc + 2) lv (.int v :: st) ws cells slots Q) : Rk ρ dC dI dA y mc ms pc lv (st) ws cells slots Q := by
  intro p l e s m args below meth c A F hin H locs ls hP hD hS hl
  exact lv_bipush F.1 F.2.1 hdg hv (K p l e s m args below meth c A F hin H locs ls hP hD hS hl)
theorem k_sipush {n : Int} {v : Int32} (hdg : decode y.1 pc = .ok (.sipush n, 3)) (hv : (Int16.ofInt n).toInt32 = v) (K : Rk ρ dC dI dA y mc ms (pc + 3) lv (.int v :: st) ws cells slots Q) : Rk ρ dC dI dA y mc ms pc lv (st) ws cells slots Q := by
  intro p l e s m args below meth c A F hin H locs ls hP hD hS hl
  exact lv_sipush F.1 F.2.1 hdg hv (K p l e s m args below meth c A F hin H locs ls hP hD hS hl)
theorem k_lconst {n : Fin 2} {v : Int64} (hdg : decode y.1 pc = .ok (.lconst n, 1)) (hv : Int64.ofNat (n : Nat) = v) (K : Rk ρ dC dI dA y mc ms (pc + 1) lv (.long v :: st) ws cells slots Q) : Rk ρ dC dI dA y mc ms pc lv (st) ws cells slots Q := by
  intro p l e s m args below meth c A F hin H locs ls hP hD hS hl
  exact lv_lconst F.1 F.2.1 hdg hv (K p l e s m args below meth c A F hin H locs ls hP hD hS hl)
theorem k_dup {v : Value} (hdg : decode y.1 pc = .ok (.dup, 1)) (hv : v.category = 1) (K : Rk ρ dC dI dA y mc ms (pc + 1) lv (v :: v :: st) ws cells slots Q) : Rk ρ dC dI dA y mc ms pc lv (v :: st) ws cells slots Q := by
  intro p l e s m args below meth c A F hin H locs ls hP hD hS hl
  exact lv_dup F.1 F.2.1 hdg hv (K p l e s m args below meth c A F hin H locs ls hP hD hS hl)
theorem k_goto {off : Int} {tgt : Nat} (hdg : decode y.1 pc = .ok (.goto off, 3)) (ht : (pc : Int) + off = (tgt : Int)) (K : Rk ρ dC dI dA y mc ms tgt lv st ws cells slots Q) : Rk ρ dC dI dA y mc ms pc lv st ws cells slots Q := by
  intro p l e s m args below meth c A F hin H locs ls hP hD hS hl
  exact lv_goto F.1 F.2.1 hdg ht (K p l e s m args below meth c A F hin H locs ls hP hD hS hl)
theorem k_icmp_ge {x u : Int32} {off : Int} (tgt : Nat) (hdg : decode y.1 pc = .ok (.if_icmp .ge off, 3)) (ht : (pc : Int) + off = (tgt : Int)) (KT : u ≤ x → Rk ρ dC dI dA y mc ms tgt lv st ws cells slots Q) (KF : ¬ u ≤ x → Rk ρ dC dI dA y mc ms (pc + 3) lv st ws cells slots Q) : Rk ρ dC dI dA y mc ms pc lv (.int u :: .int x :: st) ws cells slots Q := by
  intro p l e s m args below meth c A F hin H locs ls hP hD hS hl
  exact lv_icmp_ge F.1 F.2.1 hdg ht (fun h => KT h p l e s m args below meth c A F hin H locs ls hP hD hS hl) (fun h => KF h p l e s m args below meth c A F hin H locs ls hP hD hS hl)
theorem k_objC : Cond.code Lib.objectInit ⟨#[0xb1]⟩ 1 none ∈ fd_tb := fd_in 86 (by decide +kernel) (by decide +kernel)
theorem k_objI : Cond.instanceMethod Lib.objectInit ∈ fd_tb := fd_in 85 (by decide +kernel) (by decide +kernel)
theorem k_obj {a idx : Nat} (hlk : Cond.methodLink y.2.2.1 idx Lib.objectInit ∈ fd_tb) (hd : 1 ≤ y.2.2.2.2) (hcat : (st.map fun v => v.category).sum ≤ 8) (hdg : decode y.1 pc = .ok (.invokespecial idx, 3)) (K : Rk ρ dC dI dA y mc ms (pc + 3) lv st ws cells slots Q) : Rk ρ dC dI dA y mc ms pc lv (.ref a :: st) ws cells slots Q := by
  intro p l e s m args below meth c A F hin H locs ls hP hD hS hl
  refine W.objInit F.1 F.2.1 F.2.2.2.1 (F.2.2.2.2.2.2.1 _ hlk) (F.2.2.2.2.2.2.1 _ k_objI) (F.2.2.2.2.2.2.1 _ k_objC) rfl (hl.1.trans F.2.2.1.symm) rfl hdg hd ?_ ?_
  · have h1 : 2 * (F0 m pc ls (.ref a :: st)).monitorRoom + (st.map fun v => v.category).sum ≤ 8 := lv_room hcat
    have h2 : (kRm y.2.2.2.2 mc ms).locals = 36 * y.2.2.2.2 := rfl
    rw [h2]
    omega
  · exact W.eq (g2 := F0 m (pc + 3) ls st) rfl (K p l e s m args below meth c A F hin H locs ls hP hD hS hl)
theorem k_new {ci idx c' s' N : Nat} {C : String} {T : u_T} {fs : List Value} (ty : Nat → FieldType) (hty : ∀ k, k < N → parseFieldDescriptor (T k).2.2.1 = some (ty k)) (hr : vwCl[ci]? = some (C, T, N)) (hcl : Cond.classLink y.2.2.1 idx C ∈ fd_tb) (hi : Cond.instantiable C N ∈ fd_tb) (hini : Cond.initialized C ∈ fd_tb) (hfs : ∀ j, j < N → defaultValue (ty j) = vp_V fs j) (hc : cells + 1 = c') (hs : slots + N = s') (hcm : c' ≤ mc) (hsm : s' ≤ ms) (hdg : decode y.1 pc = .ok (.new idx, 3))
    (K : ∀ q : Nat, Rk ρ dC dI dA y mc ms (pc + 3) lv (.ref q :: st) (ws ++ [(q, .inr (ci, fs))]) c' s' Q) : Rk ρ dC dI dA y mc ms pc lv st ws cells slots Q := by
  intro p l e s m args below meth c A F hin H locs ls hP hD hS hl
  subst hc; subst hs
  exact va_new F.1 F.2.1 F.2.2.2.2.2.2.1 (fd_okA ci _ hr).1 ty hty F.2.2.2.1 (F.2.2.2.2.2.2.1 _ hcl) (F.2.2.2.2.2.2.1 _ hi) (F.2.2.2.2.2.2.1 _ hini) F.2.2.2.2.2.2.2.1 hP hD hS F.2.2.2.2.2.2.2.2.2.2 hr hfs hcm hsm hdg (fun q H1 hP1 hD1 hS1 => K q p l e s m args below meth c A F hin H1 locs ls hP1 hD1 hS1 hl)
theorem k_newa {t N c' s' : Nat} {atype : ArrayType} {n : Int32} (harr : Cond.arrayClass (newarray.typeOf atype) ∈ fd_tb) (ht : (fd_tys dA)[t]? = some (dA t, newarray.typeOf atype)) (hra : ∀ (U : State) (cc : ClassId), va_RA U cc (newarray.typeOf atype) → U.vm.findClass ("[" ++ (newarray.typeOf atype).toString) = some cc) (hdv : defaultValue (newarray.typeOf atype) = .int 0) (hn : ¬ n < 0) (hN : n.toNatClampNeg = N) (hby : N * componentBytes (newarray.typeOf atype) ≤ 536870912) (hc : cells + 1 = c') (hs : slots + N = s') (hcm : c' ≤ mc) (hsm : s' ≤ ms) (hdg : decode y.1 pc = .ok (.newarray atype, 2))
    (K : ∀ q : Nat, Rk ρ dC dI dA y mc ms (pc + 2) lv (.ref q :: st) (ws ++ [(q, .inl (dA t, N, .inl (fun _ => 0)))]) c' s' Q) : Rk ρ dC dI dA y mc ms pc lv (.int n :: st) ws cells slots Q := by
  intro p l e s m args below meth c A F hin H locs ls hP hD hS hl
  subst hc; subst hs
  refine va_newaK F.1 F.2.1 (F.2.2.2.2.2.2.1 _ harr) rfl hdg rfl hn hN hby hcm hsm rfl fun H1 cA e1 z1 o1 hAr hNm => ?_
  have hcA : cA = dA t := Option.some.inj (hNm.symm.trans (hra s (dA t) (F.2.2.2.2.2.2.2.1.2 t _ ht).2))
  subst hcA
  have hk : ∀ (k : Nat) (x : Nat × va_E), ws[k]? = some x → H1[x.1]? = H[x.1]? := fun k x hx => o1 x.1 ((hP k x hx).lt)
  refine K H.size p l e s m args below meth c A F hin H1 locs ls ((hP.kept hk).app (fun k x hx => ?_)) (hD.push hP rfl (F.2.2.2.2.2.2.2.2.2.2 _ hS.1)) ⟨Nat.le_trans hS.1 (by omega), fun x h1 h2 => (o1 x (Nat.lt_of_lt_of_le h1 hS.1)).trans (hS.2.1 x h1 h2), hS.2.2⟩ hl
  have hz : k < 1 := (List.getElem?_eq_some_iff.mp hx).1
  rw [show k = 0 by omega] at hx
  cases hx
  show H1[H.size]? = some (vp_cell _ _)
  rw [vp_cell_i, e1, hdv]
theorem k_newq {t idx N c' s' : Nat} {C : String} {n : Int32} (hcl : Cond.classLink y.2.2.1 idx C ∈ fd_tb) (hov : ∀ U, kN U → kAO (.object C) U) (ht : (fd_tys dA)[t]? = some (dA t, .object C)) (hn : ¬ n < 0) (hN : n.toNatClampNeg = N) (hby : N * 4 ≤ 536870912) (hc : cells + 1 = c') (hs : slots + N = s') (hcm : c' ≤ mc) (hsm : s' ≤ ms) (hdg : decode y.1 pc = .ok (.anewarray idx, 3))
    (K : ∀ q : Nat, Rk ρ dC dI dA y mc ms (pc + 3) lv (.ref q :: st) (ws ++ [(q, .inl (dA t, N, .inr (.inr (.inr (.inr (fun _ => none))))))]) c' s' Q) : Rk ρ dC dI dA y mc ms pc lv (.int n :: st) ws cells slots Q := by
  intro p l e s m args below meth c A F hin H locs ls hP hD hS hl
  subst hc; subst hs
  refine va_newq F.1 F.2.1 F.2.2.2.1 (F.2.2.2.2.2.2.1 _ hcl) (hov s hin.2) F.2.2.2.2.2.2.2.1 hP hD hS F.2.2.2.2.2.2.2.2.2.2 hn hN hby hcm hsm hdg (fun q cA H1 hK1 hP1 hD1 hS1 => ?_)
  have hcA : cA = dA t := by
    obtain ⟨kA, comp, g1, g2, g3, g4⟩ := (hK1.2 6 (cA, .object C) rfl).2
    obtain ⟨kA', comp', g1', g2', g3', g4'⟩ := (F.2.2.2.2.2.2.2.1.2 t _ ht).2
    exact Option.some.inj (g4.symm.trans g4')
  subst hcA
  exact K q p l e s m args below meth c A F hin H1 locs ls hP1 hD1 hS1 hl
theorem k_w {ws' : va_W} (h : ws = ws') (K : Rk ρ dC dI dA y mc ms pc lv st ws' cells slots Q) : Rk ρ dC dI dA y mc ms pc lv st ws cells slots Q := by
  subst h
  exact K
/-- that a final field may be set in its own class's constructor -/
def fd_fF (own : String) (ci j : Nat) (ty : FieldType) : Prop := ∀ r : vw_C, vwCl[ci]? = some r → (r.2.1 j).2.2.2 = true ∧ (r.2.1 j).1 = own ∧ parseFieldDescriptor (r.2.1 j).2.2.1 = some ty
theorem k_putF {a ci j idx : Nat} {fs : List Value} {v : Value} {ty : FieldType} {w1 : va_W} (hfl : fd_fl y.2.2.1 idx ci j) (hfw : fd_fF y.2.2.1 ci j ty) (hn : narrow ty v = v) (hf : fits ty v = true) (hlt : j < fs.length) (hdg : decode y.1 pc = .ok (.putfield idx, 3))
    (K : Rk ρ dC dI dA y mc ms (pc + 3) lv st ((a, .inr (ci, fs.set j v)) :: w1) cells slots Q) : Rk ρ dC dI dA y mc ms pc lv (v :: .ref a :: st) ((a, .inr (ci, fs)) :: w1) cells slots Q := by
  intro p l e s m args below meth c A F hin H locs ls hP hD hS hl
  obtain ⟨r, hr, hjN, hw⟩ := hfl
  obtain ⟨c1, ⟨ty0, hty⟩, c3⟩ := fd_okA ci r hr
  obtain ⟨hfin, hown, hd⟩ := hfw r hr
  exact va_putF F.1 F.2.1 F.2.2.2.2.2.2.1 c1 ty0 hty c3 F.2.2.2.1 F.2.2.2.2.2.2.2.1 hP hD hS 0 rfl hr j hjN (F.2.2.2.2.2.2.1 _ hw) (fun x hx => hx) hfin hin.1 hown hd hn hf hlt hdg (fun H1 locs1 hP1 hD1 hS1 => K p l e s m args below meth c A F hin H1 locs1 ls hP1 hD1 hS1 hl)
theorem k_put {a ci j idx : Nat} {fs : List Value} {v : Value} {ty : FieldType} {w1 : va_W} (hfl : fd_fl y.2.2.1 idx ci j) (hfw : fd_fw ci j ty) (hn : narrow ty v = v) (hf : fits ty v = true) (hlt : j < fs.length) (hdg : decode y.1 pc = .ok (.putfield idx, 3))
    (K : Rk ρ dC dI dA y mc ms (pc + 3) lv st ((a, .inr (ci, fs.set j v)) :: w1) cells slots Q) : Rk ρ dC dI dA y mc ms pc lv (v :: .ref a :: st) ((a, .inr (ci, fs)) :: w1) cells slots Q := by
  intro p l e s m args below meth c A F hin H locs ls hP hD hS hl
  obtain ⟨r, hr, hjN, hw⟩ := hfl
  obtain ⟨c1, ⟨ty0, hty⟩, c3⟩ := fd_okA ci r hr
  obtain ⟨hfin, hd⟩ := hfw r hr
  exact va_put F.1 F.2.1 F.2.2.2.2.2.2.1 c1 ty0 hty c3 F.2.2.2.1 F.2.2.2.2.2.2.2.1 hP hD hS 0 rfl hr j hjN (F.2.2.2.2.2.2.1 _ hw) (fun x hx => hx) hfin hd hn hf hlt hdg (fun H1 locs1 hP1 hD1 hS1 => K p l e s m args below meth c A F hin H1 locs1 ls hP1 hD1 hS1 hl)
theorem k_get {a ci j idx : Nat} {fs : List Value} {v : Value} {w1 : va_W} (hfl : fd_fl y.2.2.1 idx ci j) (hv : fs[j]? = some v) (hdg : decode y.1 pc = .ok (.getfield idx, 3)) (K : Rk ρ dC dI dA y mc ms (pc + 3) lv (v :: st) ((a, .inr (ci, fs)) :: w1) cells slots Q) : Rk ρ dC dI dA y mc ms pc lv (.ref a :: st) ((a, .inr (ci, fs)) :: w1) cells slots Q := by
  intro p l e s m args below meth c A F hin H locs ls hP hD hS hl
  obtain ⟨r, hr, hjN, hw⟩ := hfl
  obtain ⟨c1, ⟨ty0, hty⟩, c3⟩ := fd_okA ci r hr
  exact va_get F.1 F.2.1 F.2.2.2.2.2.2.1 c1 F.2.2.2.1 F.2.2.2.2.2.2.2.1 hP 0 rfl hr j hjN (F.2.2.2.2.2.2.1 _ hw) (fun x hx => hx) hv hdg (K p l e s m args below meth c A F hin H locs ls hP hD hS hl)
theorem k_aast {a q0 qk t ci n x : Nat} {r : vw_C} {vs : List Value} {f : Nat → Option Nat} {i : Int32} {ws' : va_W} (ht : (fd_tys dA)[t]? = some (dA t, .object r.1)) (hr : vwCl[ci]? = some r) (ha : ws[q0]? = some (a, .inl (dA t, n, .inr (.inr (.inr (.inr f)))))) (hv : ws[qk]? = some (x, .inr (ci, vs))) {jj : Nat} (hj : i.toNatClampNeg = jj) (hi : vp_in i n) (hw : ws.set q0 (a, .inl (dA t, n, .inr (.inr (.inr (.inr (va_up f jj (some x))))))) = ws') (hdg : decode y.1 pc = .ok (.aastore, 1))
    (K : Rk ρ dC dI dA y mc ms (pc + 1) lv st ws' cells slots Q) : Rk ρ dC dI dA y mc ms pc lv (.ref x :: .int i :: .ref a :: st) ws cells slots Q := by
  intro p l e s m args below meth c A F hin H locs ls hP hD hS hl
  subst hw; subst hj
  exact va_astq F.1 F.2.1 F.2.2.2.2.2.2.2.1 hP hD hS q0 t qk ci ha ht hv hr hi hdg (fun H1 locs1 hP1 hD1 hS1 => K p l e s m args below meth c A F hin H1 locs1 ls hP1 hD1 hS1 hl)
theorem k_aastO {E : String} {a q0 qk t ci n x : Nat} {r : vw_C} {vs : List Value} {f : Nat → Option Nat} {i : Int32} {ws' : va_W} (ht : (fd_tys dA)[t]? = some (dA t, .object E)) (hr : vwCl[ci]? = some r) (hca : Cond.castable r.1 E ∈ k_nest) (ha : ws[q0]? = some (a, .inl (dA t, n, .inr (.inr (.inr (.inr f)))))) (hv : ws[qk]? = some (x, .inr (ci, vs))) {jj : Nat} (hj : i.toNatClampNeg = jj) (hi : vp_in i n) (hw : ws.set q0 (a, .inl (dA t, n, .inr (.inr (.inr (.inr (va_up f jj (some x))))))) = ws') (hdg : decode y.1 pc = .ok (.aastore, 1))
    (K : Rk ρ dC dI dA y mc ms (pc + 1) lv st ws' cells slots Q) : Rk ρ dC dI dA y mc ms pc lv (.ref x :: .int i :: .ref a :: st) ws cells slots Q := by
  intro p l e s m args below meth c A F hin H locs ls hP hD hS hl
  subst hw; subst hj
  exact va_astqO F.1 F.2.1 F.2.2.2.2.2.2.2.1 hP hD hS q0 t qk ci ha ht (hin.2.1 _ hca) hv hr hi hdg (fun H1 locs1 hP1 hD1 hS1 => K p l e s m args below meth c A F hin H1 locs1 ls hP1 hD1 hS1 hl)
theorem k_sub {ws' : va_W} (is : List Nat) (hn : va_nd is = true) (hs : is.map (fun i => ws[i]?) = ws'.map some) (K : Rk ρ dC dI dA y mc ms pc lv st ws' cells slots Q) : Rk ρ dC dI dA y mc ms pc lv st ws cells slots Q := by
  intro p l e s m args below meth c A F hin H locs ls hP hD hS hl
  refine K p l e s m args below meth c A F hin H locs ls (fun k q hq => ?_) (hD.sub is hn hs) hS hl
  have h1 : (is.map (fun i => ws[i]?))[k]? = some (some q) := by rw [hs, List.getElem?_map, hq]; rfl
  rw [List.getElem?_map] at h1
  cases hi : is[k]? with
  | none => rw [hi] at h1; cases h1
  | some i => rw [hi] at h1; exact hP i q (Option.some.inj h1)
theorem k_ret (hr : y.2.2.2.1 = none) (hdg : decode y.1 pc = .ok (.return_, 1)) (hq : Q ws) : Rk ρ dC dI dA y cells slots pc lv [] ws cells slots Q := by
  intro p l e s m args below meth c A F hin H locs ls hP hD hS hl
  have hlocks : meth.locks = false := F.2.2.2.2.2.1
  exact W.vret F.1 F.2.1 (F.2.2.2.2.1.trans hr) (fun t ht hW => ⟨⟨ws, rfl, hq, by rw [ht]; exact hP, hD⟩, hS.F ht⟩) hS.2.2 hdg
theorem k_blind {av : List Value} {sz : Nat} : FrameBlind (k_Pc ρ dC dI dA av ws sz) := by
  intro a U g mk q
  obtain ⟨h1, h2, h3, h4, h5, h6, h7⟩ := q
  exact ⟨h1, h2, h3, va_K.moved (u := U) (U := U.calling g mk a) (Vm.Alike.refl U.vm) h4, h5, h6.vm (U := U.calling g mk a) rfl, h7.vm (U := U.calling g mk a) rfl⟩
theorem k_in {A : Nat → Prop} {H0 H : Heap} {locs : List Loc} (hA : ∀ q, H0.size ≤ q → A q) (hD : va_D A ws) (hS : va_S A H0 H locs) : ∀ q, va_A ws H.size q → A q := by
  intro q h
  rcases h with ⟨k, e, h⟩ | h
  · exact hD.2 k _ h
  · exact hA q (Nat.le_trans hS.1 h)
theorem va_D.tail {A : Nat → Prop} {w1 w2 : va_W} (h : va_D A (w1 ++ w2)) : va_D A w2 := by
  refine ⟨fun i j p q hi hj e => ?_, fun k q hk => ?_⟩
  · have := h.1 (w1.length + i) (w1.length + j) p q (by rw [List.getElem?_append_right (by omega)]; rw [Nat.add_sub_cancel_left]; exact hi) (by rw [List.getElem?_append_right (by omega)]; rw [Nat.add_sub_cancel_left]; exact hj) e
    omega
  · exact h.2 (w1.length + k) q (by rw [List.getElem?_append_right (by omega)]; rw [Nat.add_sub_cancel_left]; exact hk)
theorem va_D.head {A : Nat → Prop} {w1 w2 : va_W} (h : va_D A (w1 ++ w2)) : va_D A w1 := by
  have g : ∀ (k : Nat) (q : Nat × va_E), w1[k]? = some q → (w1 ++ w2)[k]? = some q := fun k q hk => by
    rw [List.getElem?_append_left (List.getElem?_eq_some_iff.mp hk).1]; exact hk
  exact ⟨fun i j p q hi hj e => h.1 i j p q (g i p hi) (g j q hj) e, fun k q hk => h.2 k q (g k q hk)⟩
theorem va_P.tail {D : va_G} {cl : List vw_C} {w1 w2 : va_W} {H : Heap} (h : va_P D cl (w1 ++ w2) H) : va_P D cl w2 H := fun k q hk => h (w1.length + k) q (by rw [List.getElem?_append_right (by omega)]; rw [Nat.add_sub_cancel_left]; exact hk)
theorem va_P.head {D : va_G} {cl : List vw_C} {w1 w2 : va_W} {H : Heap} (h : va_P D cl (w1 ++ w2) H) : va_P D cl w1 H := fun k q hk => h k q (by rw [List.getElem?_append_left (List.getElem?_eq_some_iff.mp hk).1]; exact hk)
/-- behind a call on the world's end: the rest, and what the callee left -/
theorem k_joinE {A : Nat → Prop} {D : va_G} {cl : List vw_C} {wc w1 : va_W} {H0 H H1 : Heap} {locs : List Loc} (hA : ∀ q, H0.size ≤ q → A q) (hP : va_P D cl (w0 ++ wc) H) (hD : va_D A (w0 ++ wc)) (hS : va_S A H0 H locs) (hk : ∀ q : Nat, q < H.size → ¬ va_A wc H.size q → H1[q]? = H[q]?) (hP1 : va_P D cl w1 H1) (hD1 : va_D (va_A wc H.size) w1) : va_P D cl (w0 ++ w1) H1 ∧ va_D A (w0 ++ w1) := by
  have apart : ∀ (k : Nat) (q : Nat × va_E), w0[k]? = some q → q.1 < H.size ∧ ¬ va_A wc H.size q.1 := by
    intro k q hq
    have hl := (hP.head k q hq).lt
    refine ⟨hl, fun h => ?_⟩
    rcases h with ⟨k2, e, h⟩ | h
    · have hkl := (List.getElem?_eq_some_iff.mp hq).1
      have := hD.1 k (w0.length + k2) q (q.1, e) (by rw [List.getElem?_append_left hkl]; exact hq) (by rw [List.getElem?_append_right (by omega)]; rw [Nat.add_sub_cancel_left]; exact h) rfl
      omega
    · omega
  have hF : ∀ q, va_A wc H.size q → A q := k_in hA hD.tail hS
  refine ⟨va_P.app (fun k q hq => ?_) hP1, va_D.app hD.head (hD1.weaken (fun k q _ h => hF q.1 h)) (fun i j x y hx hy hxy => ?_)⟩
  · obtain ⟨g1, g2⟩ := apart k q hq
    exact (hP.head k q hq).kept (hk q.1 g1 g2)
  · exact (apart i x hx).2 (by rw [hxy]; exact hD1.2 j y hy)
theorem k_cont {p : Program} {l : Launch} {e : Env} {s : State} {m : MethodId} {args : Array Value} {below : List Frame} {meth : Method} {c : Code} {A : Nat → Prop} {R : Room} {Qm : State → Prop} {mc1 ms1 : Nat} {wc : va_W} {st0 : List Value} {a : Array Value} {H : Heap} {locs : List Loc} {ls : Array Slot} (hA : ∀ q, s.heap.size ≤ q → A q) (hP : va_P (dC, dI) vwCl (w0 ++ wc) H) (hD : va_D A (w0 ++ wc)) (hS : va_S A s.heap H locs)
    (hr : va_Run p l e R s m args below meth c H locs cells slots mc1 ms1 (F0 m pc ls st0) st (kQ dC dI (va_A wc H.size) Q1 a) (va_A wc H.size))
    (K : ∀ w1 : va_W, Q1 w1 → ∀ (H1 : Heap) (locs1 : List Loc), va_P (dC, dI) vwCl (w0 ++ w1) H1 → va_D A (w0 ++ w1) → va_S A s.heap H1 locs1 → W p l e R s m args below meth c H1 locs1 (cells + mc1) (slots + ms1) Qm (F0 m (pc + 3) ls st)) : W p l e R s m args below meth c H locs cells slots Qm (F0 m pc ls st0) := by
  have hF : ∀ q, va_A wc H.size q → A q := k_in hA hD.tail hS
  intro T hT X
  obtain ⟨v, st₀, t, T', L1, h0, X', hL, e1, e2, ⟨⟨w1, hv, hq, hP1, hD1⟩, hz, hk⟩, hst⟩ := hr T hT X
  cases hv
  rw [h0] at hz hk
  obtain ⟨j1, j2⟩ := k_joinE hA hP hD hS hk hP1 hD1
  obtain ⟨t2, a1, b1⟩ := K w1 hq T'.heap (locs ++ L1) (by rw [e1]; exact j1) j2
    ⟨Nat.le_trans hS.1 (by rw [e1]; exact hz), fun q h1 h2 => by rw [e1, hk q (Nat.lt_of_lt_of_le h1 hS.1) (fun z => h2 (hF q z))]; exact hS.2.1 q h1 h2, fun q hq => by
      rcases List.mem_append.mp hq with h | h
      · exact hS.2.2 q h
      · exact hF _ (hL q h)⟩ T' rfl X'
  exact ⟨t2, hst t2 a1, b1⟩
theorem k_pre {p : Program} {s : State} {m : MethodId} {args : Array Value} {meth : Method} {c : Code} {A : Nat → Prop} (F : fd_Fix [] ρ y p s m args meth c A dC dI dA) (hN : kN s) {av : List Value} {H : Heap} {locs : List Loc} {wc : va_W} (hP : va_P (dC, dI) vwCl wc H) (hD : va_D A wc) (hS : va_S A s.heap H locs) : ∀ U : State, U.heap = H → s.WarmedH U.vm → k_Pc ρ dC dI dA av wc H.size av.toArray U := by
  intro U hU hW
  refine ⟨rfl, by rw [hU], by rw [hU]; exact hP, va_K.moved hW.alike F.2.2.2.2.2.2.2.1, hD.weaken (fun _ _ _ _ => trivial), ?_, hN.at hW⟩
  rw [hU]
  exact F.2.2.2.2.2.2.2.2.2.1.at hW hS.2.1 (k_in F.2.2.2.2.2.2.2.2.2.2 hD hS)
theorem k_room {dz dy maxL mc ms mc1 ms1 : Nat} (h : dz + 1 ≤ dy) (hm : maxL ≤ 17) : (kRm dz mc1 ms1).frames + 1 ≤ (kRm dy mc ms).frames ∧ 8 + (maxL + 11) + (kRm dz mc1 ms1).locals ≤ (kRm dy mc ms).locals := by
  refine ⟨h, ?_⟩
  show 8 + (maxL + 11) + 36 * dz ≤ 36 * dy
  omega
/-- a constructor's link, plain -/
def k_lk (own : String) (idx : Nat) (z : MethodName) (mz : fdM) : Prop := Cond.methodLink own idx z ∈ fd_tb ∧ Cond.instanceMethod z ∈ fd_tb ∧ Cond.initialized z.cls ∈ fd_tb ∧ Cond.code z mz.1 mz.2.1 none ∈ fd_tb ∧ z.name = "<init>" ∧ mz.2.2.2.1 = none ∧ z.cls ≠ "java/lang/invoke/MethodHandle" ∧ z.cls ≠ "java/lang/invoke/VarHandle" ∧ (parseMethodDescriptor z.desc).map (fun d => d.parameters.length) = some 0
def k_lkN (own : String) (idx : Nat) (z : MethodName) (mz : fdM) : Prop := Cond.methodLinkNest own idx z RX10 ∈ k_nest ∧ Cond.instanceMethod z ∈ fd_tb ∧ Cond.initialized z.cls ∈ fd_tb ∧ Cond.code z mz.1 mz.2.1 none ∈ fd_tb ∧ z.name = "<init>" ∧ mz.2.2.2.1 = none ∧ z.cls ≠ "java/lang/invoke/MethodHandle" ∧ z.cls ≠ "java/lang/invoke/VarHandle" ∧ (parseMethodDescriptor z.desc).map (fun d => d.parameters.length) = some 0
theorem k_init {idx q c' s' mc1 ms1 : Nat} {wc : va_W} (hc : KCon ρ dC dI dA z mz mc1 ms1 [.ref q] wc Q1) (hlk : k_lk y.2.2.1 idx z mz) (hw : ws = w0 ++ wc) (hd : mz.2.2.2.2 + 1 ≤ y.2.2.2.2) (hm : mz.2.1 ≤ 17) (hcat : (st.map fun v => v.category).sum ≤ 8) (hcc : cells + mc1 = c') (hss : slots + ms1 = s') (hcm : c' ≤ mc) (hsm : s' ≤ ms) (hdg : decode y.1 pc = .ok (.invokespecial idx, 3))
    (K : ∀ w1 : va_W, Q1 w1 → Rk ρ dC dI dA y mc ms (pc + 3) lv st (w0 ++ w1) c' s' Q) : Rk ρ dC dI dA y mc ms pc lv (.ref q :: st) ws cells slots Q := by
  intro p l e s m args below meth c A F hin H locs ls hP hD hS hl
  subst hcc; subst hss; subst hw
  obtain ⟨k1, k2, k3, k4, k5, k6, k7⟩ := hlk
  rw [← k6] at k4
  exact k_cont F.2.2.2.2.2.2.2.2.2.2 hP hD hS (va_runI (As := []) (own := y.2.2.1) ⟨F.1, F.2.1, F.2.2.1, F.2.2.2.1, F.2.2.2.2.2.2.1⟩ (hc l H.size) (cwI 0 F.2.2.2.2.2.2.1 (fd_gi (fd_gc k4)) (by rw [k6]) rfl rfl (F.2.2.2.2.2.2.1 _ k3) (F.2.2.2.2.2.2.1 _ k1) (F.2.2.2.2.2.2.1 _ k2) k5 k7 (k_room hd hm)) ⟨k_blind, k_pre F hin.2 hP.tail hD.tail hS⟩ rfl rfl hl.1 rfl (lv_room hcat) hdg ⟨hcm, hsm⟩) (fun w1 hq H1 locs1 hP1 hD1 hS1 => K w1 hq p l e s m args below meth c A F hin H1 locs1 ls hP1 hD1 hS1 hl)
theorem k_initN {idx q c' s' mc1 ms1 : Nat} {wc : va_W} (hc : KCon ρ dC dI dA z mz mc1 ms1 [.ref q] wc Q1) (hlk : k_lkN y.2.2.1 idx z mz) (hw : ws = w0 ++ wc) (hd : mz.2.2.2.2 + 1 ≤ y.2.2.2.2) (hm : mz.2.1 ≤ 17) (hcat : (st.map fun v => v.category).sum ≤ 8) (hcc : cells + mc1 = c') (hss : slots + ms1 = s') (hcm : c' ≤ mc) (hsm : s' ≤ ms) (hdg : decode y.1 pc = .ok (.invokespecial idx, 3))
    (K : ∀ w1 : va_W, Q1 w1 → Rk ρ dC dI dA y mc ms (pc + 3) lv st (w0 ++ w1) c' s' Q) : Rk ρ dC dI dA y mc ms pc lv (.ref q :: st) ws cells slots Q := by
  intro p l e s m args below meth c A F hin H locs ls hP hD hS hl
  subst hcc; subst hss; subst hw
  obtain ⟨k1, k2, k3, k4, k5, k6, k7⟩ := hlk
  rw [← k6] at k4
  exact k_cont F.2.2.2.2.2.2.2.2.2.2 hP hD hS (va_runIN (As := []) (own := y.2.2.1) ⟨F.1, F.2.1, F.2.2.1, F.2.2.2.1, F.2.2.2.2.2.2.1⟩ (hc l H.size) ⟨va_cnB 0 F.2.2.2.2.2.2.1 (fd_gi (fd_gc k4)) (by rw [k6]) rfl rfl (hin.2.1 _ k1) (F.2.2.2.2.2.2.1 _ k3) k7 (k_room hd hm), k5, F.2.2.2.2.2.2.1 _ k2⟩ ⟨k_blind, k_pre F hin.2 hP.tail hD.tail hS⟩ rfl rfl hl.1 rfl (lv_room hcat) hdg ⟨hcm, hsm⟩) (fun w1 hq H1 locs1 hP1 hD1 hS1 => K w1 hq p l e s m args below meth c A F hin H1 locs1 ls hP1 hD1 hS1 hl)
end KON
