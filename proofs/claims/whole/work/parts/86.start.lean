/-! THE CLAIM OUT OF ONE WALK OF THE LAW'S BODY. Your part is whole_start (and what it stands on); all else here is the same for every law, but numbers. -/
def R_law : String := "ShuffledDaysLaw"
def lw_P (b : Addr) (xs : List Int32) (args : Array Value) (s : State) : Prop := args = #[.ref b] ∧ s.IntsAt b xs ∧ xs.length ≤ 320 ∧ (Jvm.Cond.and given_1 narrow_1).before args s = true
def lw_Q (_ : Array Value) (s : State) (o : Outcome) (t : State) : Prop := o = .returned (some (.int 1)) ∧ Framed s o t [] 600000 7302250
def lw_Z (below : List Frame) (a : Array Value) (s : State) : State → Prop := fun t => ∃ o, t.status = .running ∧ Ended t below o ∧ lw_Q a s o t
/-- the law's own end, with 1 on the stack, nothing written that was there before, its room as the claim has it -/
theorem lw_ret {p : Program} {l : Launch} {e : Env} {s : State} {m : MethodId} {below : List Frame} {meth : Method} {c : Code} {b : Nat} (hx : p.tables.exec = Jvm.exec) (hb : c.code = code) (hr : meth.sig.returnType = ret) (hlocks : meth.locks = false) {pc : Nat} {H : Heap} {ls : Array Slot} (hdg : decode code pc = .ok (.ireturn, 1)) : W p l e room_1 s m #[Value.ref b] below meth c H [] 600000 7302250 (lw_Z below #[Value.ref b] s) (F0 m pc ls [.int 1]) := by
  intro T hT X
  obtain ⟨fs, hret, hrun, hended, hW, hframe⟩ := X.leave (v := some (.int 1)) (hlocks := hlocks) (fun h => by rw [hr] at h; cases h)
  have hmeth' : T.vm.method? m = some meth := X.method'
  refine ⟨T.setFrames fs, ?_, .returned (some (.int 1)), hrun, hended, rfl, ⟨_, rfl⟩, hW, hframe⟩
  jvm_step X.here [X.here.top, hx, hb, hdg, hmeth', hr, ret, narrow_b1]
  (try refine ⟨rfl, ?_⟩); (try refine ⟨rfl, ?_⟩)
  first | (intro acts; rw [hret _ acts rfl rfl rfl]) | rw [hret _ _ rfl rfl rfl]
  exact Steps.refl _
/-- what holds at the law's entry: the machine, the code, the tables' words (any of lw_tbl by 'hts w (by decide +kernel)'), the script of L ints xs at the cell b, what the Statement gives of the start (any of its parts by flat_of_before) -/
def lw_At (p : Program) (s : State) (m : MethodId) (meth : Method) (c : Code) (b L : Nat) (xs : Nat → Int32) : Prop :=
  p.tables.exec = Jvm.exec ∧ c.code = code ∧ meth.sig.returnType = ret ∧ c.maxLocals = 4 ∧ s.vm.findClass R_law = some m.cls ∧ (∀ w ∈ lw_tbl, w.before #[Value.ref b] s = true) ∧ va_X b L xs s s.heap ∧ b < s.heap.size ∧ meth.locks = false ∧ (Jvm.Cond.and given_1 narrow_1).before #[Value.ref b] s = true
set_option maxHeartbeats 400000 in
set_option maxRecDepth 20000 in
theorem whole_start {p : Program} {e : Env} {s : State} {m : MethodId} {below : List Frame} {meth : Method} {c : Code} (l : Launch) (hflags : l.flags = flags0) {b L : Nat} {xs : Nat → Int32} (hL : L ≤ 320) (C0 : lw_At p s m meth c b L xs) : W p l e room_1 s m #[Value.ref b] below meth c s.heap [] 0 0 (lw_Z below #[Value.ref b] s) (entryFrame m ([Value.ref b] : List Value).toArray 4) := by
  obtain ⟨hx, hb, hr, hml, hown, ht, hX, hbl, hlocks, hgv⟩ := C0
  obtain ⟨ρ, hPF⟩ := lt_PF ht (flat_of_before _ hgv)
  have hN := lt_kN ht
  obtain ⟨dC, dI, dA, hK⟩ := lt_K ht
  have htb := lt_tb ht
  have hA : ∀ q : Nat, s.heap.size ≤ q → (fun q => s.heap.size ≤ q) q := fun _ h => h
  have F0 : fd_Fix [] ρ (code, 4, "ShuffledDaysLaw", ret, 13) p s m #[Value.ref b] meth c (fun q => s.heap.size ≤ q) dC dI dA := ⟨hx, hb, hml, hown, hr, hlocks, htb, hK, fd_nil, hPF, hA⟩
  have hS : va_S (fun q => s.heap.size ≤ q) s.heap s.heap [] := va_S.rf
  have hP : va_P (dC, dI) vwCl [] s.heap := fun k q h => by simp at h
  have hD : va_D (fun q => s.heap.size ≤ q) [] := ⟨fun i j p q h => by simp at h, fun k q h => by simp at h⟩
  have hl := lv_entry ([.ref b]) (n := 4) (Nat.le_of_ble_eq_true rfl)
  rw [lg_entry_eq]
  generalize (lg_sl ([.ref b]) ++ List.replicate (4 - (lg_sl ([.ref b])).length) Slot.unset).toArray = ls at hl ⊢
  have hl : lv_has ls 4 [(0, .ref b)] := hl
  refine va_new (ci := 10) (fs := [.null, .null, .null, .null, .null, .null, .null, .null, .null, .null, .null, .long 0, .long 0]) (C := RX10) (T := TX10) (N := 13) hx hb htb fd_ok10.1 tyX10 tyX10_ok hown (htb _ (fd_in 79 (by decide +kernel) (by decide +kernel))) (htb _ (fd_in 80 (by decide +kernel) (by decide +kernel))) (htb _ (fd_in 61 (by decide +kernel) (by decide +kernel))) hK hP hD hS hA rfl kz_10 (Nat.le_of_ble_eq_true rfl) (Nat.le_of_ble_eq_true rfl) dL_law_0 (fun q H hPa hDa hSa => ?_)
  refine lv_dup hx hb dL_law_3 rfl ?_
  refine k_cont (w0 := []) (wc := [(q, .inr (10, [.null, .null, .null, .null, .null, .null, .null, .null, .null, .null, .null, .long 0, .long 0]))]) hA hPa hDa hSa (va_runI (As := []) (own := "ShuffledDaysLaw") ⟨hx, hb, hml, hown, htb⟩ (c_X10_init (ρ := ρ) (dC := dC) (dI := dI) (dA := dA) q l H.size) (cwI 0 htb (fd_gi (fd_gc (fd_in 83 (by decide +kernel) (by decide +kernel)))) rfl rfl rfl (htb _ (fd_in 61 (by decide +kernel) (by decide +kernel))) (htb _ (fd_in 81 (by decide +kernel) (by decide +kernel))) (htb _ (fd_in 82 (by decide +kernel) (by decide +kernel))) rfl ⟨by decide, by decide, by decide +kernel⟩ ⟨Nat.le_of_ble_eq_true rfl, Nat.le_of_ble_eq_true rfl⟩) ⟨k_blind, k_pre F0 hN hPa.tail hDa.tail hSa⟩ rfl rfl hl.1 rfl (lv_room (Nat.le_of_ble_eq_true rfl)) dL_law_4 ⟨Nat.le_of_ble_eq_true rfl, Nat.le_of_ble_eq_true rfl⟩) (fun w1 hq H1 locs1 hPb hDb hSb => ?_)
  obtain ⟨aX, I, L1, ha0, haρ, hw1, g1, -, -, -, l1, l2, g2⟩ := hq
  rw [List.nil_append] at hPb hDb
  clear hPa hDa hSa
  subst ha0
  refine lv_astore_n (lv' := [(1, .ref (aX 0)), (0, .ref b)]) hx hb dL_law_7 rfl hl (by decide) rfl (fun ls hl => ?_)
  refine va_new (ci := 11) (fs := [.null, .int 0, .null, .null, .null, .null, .null, .int 0, .null, .null, .int 0, .null, .null, .int 0, .null, .null, .int 0, .int 0, .null, .null, .null, .null, .int 0, .null, .long 0, .long 0, .null, .null, .null, .int 0, .int 0, .int 0, .int 0, .int 0, .null, .null, .null, .null, .long 0]) (C := RX11) (T := TX11) (N := 39) hx hb htb fd_ok11.1 tyX11 tyX11_ok hown (htb _ (fd_in 924 (by decide +kernel) (by decide +kernel))) (htb _ (fd_in 925 (by decide +kernel) (by decide +kernel))) (htb _ (fd_in 72 (by decide +kernel) (by decide +kernel))) hK hPb hDb hSb hA rfl kz_11 (Nat.le_of_ble_eq_true rfl) (Nat.le_of_ble_eq_true rfl) dL_law_8 (fun q2 H2 hPc hDc hSc => ?_)
  refine lv_dup hx hb dL_law_11 rfl ?_
  refine k_cont (w0 := w1) (wc := [(q2, .inr (11, [.null, .int 0, .null, .null, .null, .null, .null, .int 0, .null, .null, .int 0, .null, .null, .int 0, .null, .null, .int 0, .int 0, .null, .null, .null, .null, .int 0, .null, .long 0, .long 0, .null, .null, .null, .int 0, .int 0, .int 0, .int 0, .int 0, .null, .null, .null, .null, .long 0]))]) hA hPc hDc hSc (va_runI (As := []) (own := "ShuffledDaysLaw") ⟨hx, hb, hml, hown, htb⟩ (c_X11_init (ρ := ρ) (dC := dC) (dI := dI) (dA := dA) q2 l H2.size) (cwI 0 htb (fd_gi (fd_gc (fd_in 928 (by decide +kernel) (by decide +kernel)))) rfl rfl rfl (htb _ (fd_in 72 (by decide +kernel) (by decide +kernel))) (htb _ (fd_in 926 (by decide +kernel) (by decide +kernel))) (htb _ (fd_in 927 (by decide +kernel) (by decide +kernel))) rfl ⟨by decide, by decide, by decide +kernel⟩ ⟨Nat.le_of_ble_eq_true rfl, Nat.le_of_ble_eq_true rfl⟩) ⟨k_blind, k_pre F0 hN hPc.tail hDc.tail hSc⟩ rfl rfl hl.1 rfl (lv_room (Nat.le_of_ble_eq_true rfl)) dL_law_12 ⟨Nat.le_of_ble_eq_true rfl, Nat.le_of_ble_eq_true rfl⟩) (fun w2 hq H3 locs3 hPd hDd hSd => ?_)
  obtain ⟨aM, J, M1, hb0, hbρ, hw2, g3, m1, m2⟩ := hq
  clear hPc hDc hSc
  subst hb0
  refine lv_astore_n (lv' := [(2, .ref (aM 0)), (1, .ref (aX 0)), (0, .ref b)]) hx hb dL_law_15 rfl hl (by decide) rfl (fun ls hl => ?_)
  refine lv_iconst (v := nI 0) hx hb dL_law_16 (by decide) ?_
  refine lv_istore_n (lv' := lwV aX aM b 0) hx hb dL_law_17 rfl hl (by decide) rfl (fun ls hl => ?_)
  refine W.widen (k := 600000) (n := 7302250) (Nat.le_of_ble_eq_true rfl) (Nat.le_of_ble_eq_true rfl) ?_
  rw [hw1, hw2] at hPd hDd
  have hR : lwR (opLife 4) 0 I L1 J M1 := lt_R g1 g2 g3 (l1.trans m1.symm) (l2.trans m2.symm)
  have K : LR aX aM b L xs 18 (lwV aX aM b 0) [] I L1 J M1 := law_loop hL L 0 (by omega) (by omega) (opLife 4) 0 I L1 J M1 hR
  have F : lwF aX aM dC dI dA b L xs p s m meth c := ⟨hx, hb, hml, hown, hr, hlocks, htb, hK, ⟨hX, hbl⟩, hPF.to haρ, hPF.to hbρ⟩
  have Z := K p l e s m below meth c dC dI dA F H3 locs3 ls hPd.head hPd.tail hDd hSd hl
  exact Z
