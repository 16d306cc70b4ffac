/-! ===== the foundation: one judgement for a method's body over a fixed shape of the heap ===== -/
/-- ints and longs by cell and place -/
abbrev fdI : Type := Nat → Nat → Int32
abbrev fdL : Type := Nat → Nat → Int64
/-- a cell's shape: an object (class, what each field is: 0 int, 1 long, k + 2 the cell k), a row of numbers (type, length), a row of cells (type, which) -/
abbrev fdE : Type := (Nat × List Nat) ⊕ ((Nat × Nat) ⊕ (Nat × List Nat))
/-- a method: its bytes, its locals, its class, its return type, how deep it calls -/
abbrev fdM : Type := ByteArray × Nat × String × Option FieldType × Nat
abbrev fd_tys (dA : Nat → ClassId) : List (ClassId × FieldType) := [(dA 0, .int), (dA 1, .boolean), (dA 2, .byte), (dA 3, .object "ShuffledDays$PlainDay"), (dA 4, .object "ShuffledDays$Life"), (dA 5, .array .int)]
def fd_fv (α : Nat → Nat) (I : fdI) (L : fdL) (k j : Nat) (kd : Nat) : Value := match kd with
  | 0 => .int (I k j)
  | 1 => .long (L k j)
  | n + 2 => .ref (α n)
def fd_en (α : Nat → Nat) (dA : Nat → ClassId) (I : fdI) (L : fdL) (k : Nat) (e : fdE) : va_E := match e with
  | .inl (ci, ks) => .inr (ci, ks.mapIdx (fun j kd => fd_fv α I L k j kd))
  | .inr (.inl (t, n)) => .inl (dA t, n, .inl (I k))
  | .inr (.inr (t, rs)) => .inl (dA t, rs.length, .inr (.inr (.inr (.inr (fun j => (rs[j]?).map α)))))
def fd_ws (S : List fdE) (α : Nat → Nat) (dA : Nat → ClassId) (I : fdI) (L : fdL) : va_W := S.mapIdx (fun k e => (α k, fd_en α dA I L k e))
def fd_up {β : Type} (I : Nat → Nat → β) (k j : Nat) (v : β) : Nat → Nat → β := fun a b => if a = k then (if b = j then v else I a b) else I a b
/-- a whole row anew -/
def fd_row {β : Type} (I : Nat → Nat → β) (k : Nat) (f : Nat → β) : Nat → Nat → β := fun a => if a = k then f else I a
theorem fd_up_same {β : Type} {I : Nat → Nat → β} {k j : Nat} {v : β} : fd_up I k j v k j = v := by simp [fd_up]
theorem fd_up_cell {β : Type} {I : Nat → Nat → β} {k j a : Nat} {v : β} (h : a ≠ k) : fd_up I k j v a = I a := by funext b; simp [fd_up, h]
theorem fd_up_ne {β : Type} {I : Nat → Nat → β} {k j a b : Nat} {v : β} (h : a ≠ k) : fd_up I k j v a b = I a b := by simp [fd_up, h]
theorem fd_up_pl {β : Type} {I : Nat → Nat → β} {k j b : Nat} {v : β} (h : b ≠ j) : fd_up I k j v k b = I k b := by simp [fd_up, h]
theorem fd_up_at {β : Type} {I : Nat → Nat → β} {k j b : Nat} {v : β} : fd_up I k j v k b = if b = j then v else I k b := by simp [fd_up]
theorem fd_row_same {β : Type} {I : Nat → Nat → β} {k : Nat} {f : Nat → β} : fd_row I k f k = f := by simp [fd_row]
theorem fd_row_ne {β : Type} {I : Nat → Nat → β} {k a : Nat} {f : Nat → β} (h : a ≠ k) : fd_row I k f a = I a := by simp [fd_row, h]
theorem fd_get (S : List fdE) (α : Nat → Nat) (dA : Nat → ClassId) (I : fdI) (L : fdL) {k : Nat} {e : fdE} (h : S[k]? = some e) : (fd_ws S α dA I L)[k]? = some (α k, fd_en α dA I L k e) := by
  unfold fd_ws
  rw [List.getElem?_mapIdx, h]
  rfl
theorem fd_en_eq {α : Nat → Nat} {dA : Nat → ClassId} {I I' : fdI} {L L' : fdL} {k : Nat} {e : fdE} (h : I' k = I k) (h2 : L' k = L k) : fd_en α dA I' L' k e = fd_en α dA I L k e := by
  match e with
  | .inl (ci, ks) =>
    show (Sum.inr (ci, _) : va_E) = .inr (ci, _)
    congr 3
    funext j kd
    match kd with
    | 0 => show Value.int _ = Value.int _; rw [h]
    | 1 => show Value.long _ = Value.long _; rw [h2]
    | n + 2 => rfl
  | .inr (.inl (t, n)) => show (Sum.inl (dA t, n, .inl (I' k)) : va_E) = _; rw [h]; rfl
  | .inr (.inr (t, rs)) => rfl
theorem fd_ws_set {S : List fdE} {α : Nat → Nat} {dA : Nat → ClassId} {I I' : fdI} {L L' : fdL} {k : Nat} {e : fdE} {x : va_E} (h : S[k]? = some e) (hI : ∀ a, a ≠ k → I' a = I a) (hL : ∀ a, a ≠ k → L' a = L a) (hx : x = fd_en α dA I' L' k e) : (fd_ws S α dA I L).set k (α k, x) = fd_ws S α dA I' L' := by
  apply List.ext_getElem?
  intro i
  rw [List.getElem?_set]
  have hk : k < S.length := (List.getElem?_eq_some_iff.mp h).1
  by_cases hi : k = i
  · subst hi
    have hl : k < (fd_ws S α dA I L).length := by simpa [fd_ws] using hk
    rw [if_pos rfl, if_pos hl, fd_get S α dA I' L' h, hx]
  · rw [if_neg hi]
    unfold fd_ws
    rw [List.getElem?_mapIdx, List.getElem?_mapIdx]
    cases S[i]? with
    | none => rfl
    | some e => simp only [Option.map_some]; rw [fd_en_eq (hI i (fun q => hi q.symm)) (hL i (fun q => hi q.symm))]
theorem fd_wsI {S : List fdE} {α : Nat → Nat} {dA : Nat → ClassId} {I : fdI} {L : fdL} {k ci j : Nat} {ks : List Nat} {v : Int32} (h : S[k]? = some (.inl (ci, ks))) (hj : ks[j]? = some 0) : (fd_ws S α dA I L).set k (α k, .inr (ci, (ks.mapIdx (fun j kd => fd_fv α I L k j kd)).set j (.int v))) = fd_ws S α dA (fd_up I k j v) L := by
  refine fd_ws_set h (fun a ha => fd_up_cell ha) (fun _ _ => rfl) ?_
  show (Sum.inr (ci, _) : va_E) = .inr (ci, _)
  congr 2
  apply List.ext_getElem?
  intro i
  rw [List.getElem?_set, List.getElem?_mapIdx, List.getElem?_mapIdx]
  have hk : j < ks.length := (List.getElem?_eq_some_iff.mp hj).1
  by_cases hi : j = i
  · subst hi
    rw [if_pos rfl, if_pos (by simpa using hk), hj]
    show some (Value.int v) = some (Value.int _)
    rw [fd_up_same]
  · rw [if_neg hi]
    cases ks[i]? with
    | none => rfl
    | some kd =>
      show some (fd_fv α I L k i kd) = some (fd_fv α _ L k i kd)
      match kd with
      | 0 => show some (Value.int _) = some (Value.int _); rw [fd_up_pl (fun q => hi q.symm)]
      | 1 => rfl
      | n + 2 => rfl
theorem fd_wsJ {S : List fdE} {α : Nat → Nat} {dA : Nat → ClassId} {I : fdI} {L : fdL} {k ci j : Nat} {ks : List Nat} {v : Int64} (h : S[k]? = some (.inl (ci, ks))) (hj : ks[j]? = some 1) : (fd_ws S α dA I L).set k (α k, .inr (ci, (ks.mapIdx (fun j kd => fd_fv α I L k j kd)).set j (.long v))) = fd_ws S α dA I (fd_up L k j v) := by
  refine fd_ws_set h (fun _ _ => rfl) (fun a ha => fd_up_cell ha) ?_
  show (Sum.inr (ci, _) : va_E) = .inr (ci, _)
  congr 2
  apply List.ext_getElem?
  intro i
  rw [List.getElem?_set, List.getElem?_mapIdx, List.getElem?_mapIdx]
  have hk : j < ks.length := (List.getElem?_eq_some_iff.mp hj).1
  by_cases hi : j = i
  · subst hi
    rw [if_pos rfl, if_pos (by simpa using hk), hj]
    show some (Value.long v) = some (Value.long _)
    rw [fd_up_same]
  · rw [if_neg hi]
    cases ks[i]? with
    | none => rfl
    | some kd =>
      show some (fd_fv α I L k i kd) = some (fd_fv α I _ k i kd)
      match kd with
      | 0 => rfl
      | 1 => show some (Value.long _) = some (Value.long _); rw [fd_up_pl (fun q => hi q.symm)]
      | n + 2 => rfl
theorem fd_wsA {S : List fdE} {α : Nat → Nat} {dA : Nat → ClassId} {I : fdI} {L : fdL} {k t n j : Nat} {v : Int32} (h : S[k]? = some (.inr (.inl (t, n)))) : (fd_ws S α dA I L).set k (α k, .inl (dA t, n, .inl (upd (I k) j v))) = fd_ws S α dA (fd_up I k j v) L := by
  refine fd_ws_set h (fun a ha => fd_up_cell ha) (fun _ _ => rfl) ?_
  show (Sum.inl (dA t, n, .inl _) : va_E) = .inl (dA t, n, .inl _)
  congr 4
  funext b
  simp [fd_up, upd]
theorem fd_wsR {S : List fdE} {α : Nat → Nat} {dA : Nat → ClassId} {I : fdI} {L : fdL} {k t n : Nat} {f : Nat → Int32} (h : S[k]? = some (.inr (.inl (t, n)))) : (fd_ws S α dA I L).set k (α k, .inl (dA t, n, .inl f)) = fd_ws S α dA (fd_row I k f) L := by
  refine fd_ws_set h (fun a ha => fd_row_ne ha) (fun _ _ => rfl) ?_
  show (Sum.inl (dA t, n, .inl _) : va_E) = .inl (dA t, n, .inl _)
  rw [fd_row_same]
theorem fd_wsP {S : List fdE} {α : Nat → Nat} {dA : Nat → ClassId} {I I' : fdI} {L L' : fdL} {k : Nat} {q : Nat × va_E} (h : (fd_ws S α dA I L)[k]? = some q) : ∃ e', (fd_ws S α dA I' L')[k]? = some (q.1, e') := by
  unfold fd_ws at h ⊢
  rw [List.getElem?_mapIdx] at h ⊢
  cases hs : S[k]? with
  | none => rw [hs] at h; cases h
  | some e => rw [hs] at h; cases h; exact ⟨_, rfl⟩
theorem fd_D {S : List fdE} {α : Nat → Nat} {dA : Nat → ClassId} {I I' : fdI} {L L' : fdL} {A : Nat → Prop} (h : va_D A (fd_ws S α dA I L)) : va_D A (fd_ws S α dA I' L') := by
  refine ⟨fun i j p q hi hj e => ?_, fun k q hk => ?_⟩
  · obtain ⟨e1, h1⟩ := fd_wsP (I' := I) (L' := L) hi
    obtain ⟨e2, h2⟩ := fd_wsP (I' := I) (L' := L) hj
    exact h.1 i j _ _ h1 h2 e
  · obtain ⟨e1, h1⟩ := fd_wsP (I' := I) (L' := L) hk
    have h2 := h.2 k (q.1, e1) h1
    exact h2
theorem fd_A {S : List fdE} {α : Nat → Nat} {dA : Nat → ClassId} {I I' : fdI} {L L' : fdL} {sz q : Nat} (h : va_A (fd_ws S α dA I L) sz q) : va_A (fd_ws S α dA I' L') sz q := by
  rcases h with ⟨k, e, hk⟩ | h
  · obtain ⟨e1, h1⟩ := fd_wsP (I' := I') (L' := L') hk
    exact Or.inl ⟨k, e1, h1⟩
  · exact Or.inr h
/-- the words of every method: all of the tables that last -/
def fd_tb : List Cond := lw_tbl.filter goodWord
theorem fd_in {w : Cond} (i : Nat) (h : lw_tbl[i]? = some w) (hg : goodWord w = true) : w ∈ fd_tb := List.mem_filter.mpr ⟨List.mem_of_getElem? h, hg⟩
theorem fd_good {w : Cond} (h : w ∈ fd_tb) : goodWord w = true := (List.mem_filter.mp h).2
theorem fd_goodIn : GoodIn fd_tb fd_tb := fun w h => ⟨h, good_of_word (fd_good h)⟩
def fd_rm (d : Nat) : Room := { frames := d, cells := 0, slots := 0, locals := 36 * d }

def fd_facts : List Int32 := [1, 1, 2, 6, 24, 120, 720, 5040]
def fd_words : List String := ["life", "day", "needs", "teaches", "note", "ahead", "at"]
def fd_len : List Nat := [4, 3, 5, 7, 4, 5, 2]
def fd_byt : List (List Int32) := [[108, 105, 102, 101], [100, 97, 121], [110, 101, 101, 100, 115], [116, 101, 97, 99, 104, 101, 115], [110, 111, 116, 101], [97, 104, 101, 97, 100], [97, 116]]
def fd_nest : List Cond := [.methodLinkNest RX5 85 ⟨RX10, "isFact", "(I)Z"⟩ RX10, .fieldLinkNest RX5 74 RX10 "ORDERS_OF" "[I" RX10, .fieldLinkNest RX2 83 RX10 "ORDERS_OF" "[I" RX10]
/-- what stays as it is: the row ORDERS_OF, the seven words, what the JDK's classes hold, the links between nest mates -/
def fd_PF (α : Nat → Nat) (A : Nat → Prop) (U : State) (H : Heap) : Prop :=
  va_Z RX10 "ORDERS_OF" "[I" (.ref (α 1000)) A U H ∧ va_T .int (α 1000) 8 (fun j => .int (fd_facts.getD j 0)) A U H ∧
  vk_S 7 fd_len fd_byt (fun i => α (1001 + i)) (fun i => α (1011 + i)) A U H ∧
  (∀ i, i < 7 → vk_R RX9 (75 + 2 * i) (fd_words.getD i "") (α (1001 + i)) U) ∧
  va_Z "java/lang/String" "COMPACT_STRINGS" "Z" (.int 1) A U H ∧ va_Zq "jdk/internal/util/Preconditions" "SIOOBE_FORMATTER" "Ljava/util/function/BiFunction;" A U H ∧
  ∀ w ∈ fd_nest, va_Nw w U
theorem fd_PF.at {α : Nat → Nat} {A B : Nat → Prop} {s U : State} {H : Heap} (h : fd_PF α A s s.heap) (hW : s.WarmedH U.vm) (hq : ∀ a : Nat, a < s.heap.size → ¬ A a → H[a]? = s.heap[a]?) (hAB : ∀ q, B q → A q) : fd_PF α B U H := by
  obtain ⟨h1, h2, h3, h4, h5, h6, h7⟩ := h
  refine ⟨((h1.moved hW.alike).kept hq).narrow hAB, ((h2.moved hW.alike).kept hq).narrow hAB, ((h3.moved hW.alike).kept hq).narrow hAB, fun i hi => (h4 i hi).warm hW, ((h5.moved hW.alike).kept hq).narrow hAB, ((h6.moved hW.alike).kept hq).narrow hAB, ?_⟩
  intro w hw
  have h := h7 w hw
  simp only [fd_nest, List.mem_cons, List.not_mem_nil, or_false] at hw
  rcases hw with rfl | rfl | rfl
  · exact va_Nw.warmM hW h
  · exact va_Nw.warmF hW h
  · exact va_Nw.warmF hW h
theorem fd_PF.vm {α : Nat → Nat} {A : Nat → Prop} {u U : State} {H : Heap} (h : fd_PF α A u H) (hv : U.vm = u.vm) : fd_PF α A U H := by
  obtain ⟨h1, h2, h3, h4, h5, h6, h7⟩ := h
  have ha : u.vm.Alike U.vm := by rw [hv]; exact Vm.Alike.refl u.vm
  refine ⟨h1.moved ha, h2.moved ha, h3.moved ha, fun i hi => (h4 i hi).same hv, h5.moved ha, h6.moved ha, ?_⟩
  intro w hw
  have h := h7 w hw
  simp only [fd_nest, List.mem_cons, List.not_mem_nil, or_false] at hw
  rcases hw with rfl | rfl | rfl <;> exact va_Nw.same rfl hv.symm h
/-- what a method's frame stands on -/
def fd_Fix (S : List fdE) (α : Nat → Nat) (y : fdM) (p : Program) (s : State) (m : MethodId) (args : Array Value) (meth : Method) (c : Code) (A : Nat → Prop) (dC : Nat → ClassId) (dI : Nat → Nat → Nat) (dA : Nat → ClassId) : Prop :=
  p.tables.exec = Jvm.exec ∧ c.code = y.1 ∧ c.maxLocals = y.2.1 ∧ s.vm.findClass y.2.2.1 = some m.cls ∧ meth.sig.returnType = y.2.2.2.1 ∧ meth.locks = false ∧ (∀ w ∈ fd_tb, w.before args s = true) ∧ va_K (dC, dI) vwCl (fd_tys dA) s ∧ (∀ I L, va_D A (fd_ws S α dA I L)) ∧ fd_PF α A s s.heap ∧ (∀ q, s.heap.size ≤ q → A q)
def fd_Q (S : List fdE) (α : Nat → Nat) (dC : Nat → ClassId) (dI : Nat → Nat → Nat) (dA : Nat → ClassId) (A : Nat → Prop) (Q : Option Value → fdI → fdL → Prop) : Array Value → State → Outcome → State → Prop := fun _ st oc t =>
  (∃ (rv : Option Value) (I' : fdI) (L' : fdL), oc = .returned rv ∧ Q rv I' L' ∧ va_P (dC, dI) vwCl (fd_ws S α dA I' L') t.heap) ∧ va_F A st t
/-- THE JUDGEMENT: at this place of the method, with these locals and this stack, the cells as I and L say, it comes to its end, and Q holds of its answer and of the cells then -/
def Rn (S : List fdE) (α : Nat → Nat) (y : fdM) (pc : Nat) (lv : List (Nat × Value)) (st : List Value) (I : fdI) (L : fdL) (Q : Option Value → fdI → fdL → Prop) : Prop :=
  ∀ (p : Program) (l : Launch) (e : Env) (s : State) (m : MethodId) (args : Array Value) (below : List Frame) (meth : Method) (c : Code) (A : Nat → Prop) (dC : Nat → ClassId) (dI : Nat → Nat → Nat) (dA : Nat → ClassId), fd_Fix S α y p s m args meth c A dC dI dA →
  ∀ (H : Heap) (locs : List Loc) (ls : Array Slot), va_P (dC, dI) vwCl (fd_ws S α dA I L) H → va_S A s.heap H locs → lv_has ls y.2.1 lv →
  W p l e (fd_rm y.2.2.2.2) s m args below meth c H locs 0 0 (MQ below (fd_Q S α dC dI dA A Q) args s 0 0 A) (F0 m pc ls st)
/-- a method's contract -/
def Con (S : List fdE) (α : Nat → Nat) (y : MethodName) (mi : fdM) (av : List Value) (I : fdI) (L : fdL) (Q : Option Value → fdI → fdL → Prop) : Prop :=
  ∀ (l : Launch) (dC : Nat → ClassId) (dI : Nat → Nat → Nat) (dA : Nat → ClassId) (sz : Nat), Met l y (.code y mi.1 mi.2.1 mi.2.2.2.1 :: fd_tb) (fd_rm mi.2.2.2.2)
    (va_Pc av (fun U => U.heap.size = sz ∧ va_P (dC, dI) vwCl (fd_ws S α dA I L) U.heap ∧ va_K (dC, dI) vwCl (fd_tys dA) U ∧ va_D (fun _ => True) (fd_ws S α dA I L) ∧ fd_PF α (va_A (fd_ws S α dA I L) sz) U U.heap))
    (fd_Q S α dC dI dA (va_A (fd_ws S α dA I L) sz) Q) 0 0 (va_A (fd_ws S α dA I L) sz)
theorem Con.of {S : List fdE} {α : Nat → Nat} {y : MethodName} {mi : fdM} {av : List Value} {I : fdI} {L : fdL} {Q : Option Value → fdI → fdL → Prop} (hy : plainName y.cls = true) (hc : mi.2.2.1 = y.cls) (hn : (lg_sl av).length ≤ mi.2.1) (h : Rn S α mi 0 (lv_args 0 av) [] I L Q) : Con S α y mi av I L Q := by
  intro l dC dI dA sz
  refine Met.ofW (cc := mi.1) (maxL := mi.2.1) (ret := mi.2.2.2.1) hy rfl ?_
  intro p e s m args below meth c s₁ B hml hv
  obtain ⟨rfl, hsz, hP, hK, hD0, hPF⟩ := hv
  have hts := atoms_spec (ws := .code y mi.1 mi.2.1 mi.2.2.2.1 :: fd_tb) B.pre
  have hown : s.vm.findClass y.cls = some m.cls := findClass_of_methodNamed B.named
  subst hsz
  have hD := hD0.self (sz := s.heap.size)
  have hl := lv_entry av (n := mi.2.1) hn
  rw [lg_entry_eq]
  exact h p l e s m _ below meth c (va_A (fd_ws S α dA I L) s.heap.size) dC dI dA ⟨B.exec, B.bytes, hml, by rw [hc]; exact hown, B.returns, B.notSynchronized, fun w hw => hts w (List.mem_cons_of_mem _ hw), hK, fun I' L' => fd_D hD, hPF, fun q hq => Or.inr hq⟩ s.heap [] _ hP va_S.rf hl
theorem Con.weaken {S : List fdE} {α : Nat → Nat} {y : MethodName} {mi : fdM} {av : List Value} {I : fdI} {L : fdL} {Q Q' : Option Value → fdI → fdL → Prop} (h : Con S α y mi av I L Q) (hQ : ∀ rv I' L', Q rv I' L' → Q' rv I' L') : Con S α y mi av I L Q' := by
  intro l dC dI dA sz
  have k := h l dC dI dA sz
  intro p e ha hc hk s m args below hf happ hP hK
  obtain ⟨t, o, h1, h2, h3, ⟨⟨rv, I', L', q1, q2, q3⟩, q4⟩, q5⟩ := k p e ha hc hk s m args below hf happ hP hK
  exact ⟨t, o, h1, h2, h3, ⟨⟨rv, I', L', q1, hQ _ _ _ q2, q3⟩, q4⟩, q5⟩
/-- locals: what is listed for one, the list without it -/
def fd_lk : List (Nat × Value) → Nat → Option Value
  | [], _ => none
  | (j, v) :: t, i => cond (Nat.beq j i) (some v) (fd_lk t i)
theorem fd_lk_at {ls : Array Slot} {nL : Nat} {lv : List (Nat × Value)} (h : lv_has ls nL lv) {i : Nat} {v : Value} (hk : fd_lk lv i = some v) : ls[i]? = some (.val v) := by
  have : ∀ lv : List (Nat × Value), fd_lk lv i = some v → (i, v) ∈ lv := by
    intro lv
    induction lv with
    | nil => intro q; cases q
    | cons a t ih =>
      obtain ⟨j, w⟩ := a
      intro q
      unfold fd_lk at q
      cases hb : Nat.beq j i with
      | true =>
        rw [hb] at q
        cases q
        rw [Nat.eq_of_beq_eq_true hb]
        exact List.mem_cons_self
      | false =>
        rw [hb] at q
        exact List.mem_cons_of_mem _ (ih q)
  exact h.2.2 (i, v) (this lv hk)
def fd_pk (lv : List (Nat × Value)) : List Nat → List (Nat × Value)
  | [] => []
  | i :: is => match fd_lk lv i with
    | some v => (i, v) :: fd_pk lv is
    | none => fd_pk lv is
theorem fd_pk_has {ls : Array Slot} {nL : Nat} {lv : List (Nat × Value)} (h : lv_has ls nL lv) (ks : List Nat) : lv_has ls nL (fd_pk lv ks) := by
  refine ⟨h.1, h.2.1, ?_⟩
  induction ks with
  | nil => intro q hq; cases hq
  | cons i is ih =>
    intro q hq
    unfold fd_pk at hq
    cases hk : fd_lk lv i with
    | none => rw [hk] at hq; exact ih q hq
    | some v =>
      rw [hk] at hq
      rcases List.mem_cons.mp hq with e | hq
      · subst e; exact fd_lk_at h hk
      · exact ih q hq
abbrev fd_s1 (lv : List (Nat × Value)) (i : Nat) (v : Value) : List (Nat × Value) := (i, v) :: lv.filter (fun q => !(q.1 == i) && !(q.1 + 1 == i && q.2.category == 2))
abbrev fd_s2 (lv : List (Nat × Value)) (i : Nat) (v : Value) : List (Nat × Value) := (i, v) :: lv.filter (fun q => !(q.1 == i) && (!(q.1 == i + 1) && !(q.1 + 1 == i && q.2.category == 2)))
section FDR
variable {S : List fdE} {α : Nat → Nat} {y : fdM} {pc : Nat} {lv lv' : List (Nat × Value)} {st : List Value} {I I' : fdI} {L L' : fdL} {Q : Option Value → fdI → fdL → Prop}
theorem r_keep (ks : List Nat) (hl : fd_pk lv ks = lv') (K : Rn S α y pc lv' st I L Q) : Rn S α y pc lv st I L Q := by
  subst hl
  intro p l e s m args below meth c A dC dI dA F H locs ls hP hS hl
  exact K p l e s m args below meth c A dC dI dA F H locs ls hP hS (fd_pk_has hl ks)
theorem r_eq {st' : List Value} (K : Rn S α y pc lv' st' I' L' Q) (h1 : lv = lv') (h2 : st = st') (h3 : I = I') (h4 : L = L') : Rn S α y pc lv st I L Q := by
  subst h1; subst h2; subst h3; subst h4; exact K
theorem r_post {Q' : Option Value → fdI → fdL → Prop} (K : Rn S α y pc lv st I L Q') (h : ∀ rv I' L', Q' rv I' L' → Q rv I' L') : Rn S α y pc lv st I L Q := by
  intro p l e s m args below meth c A dC dI dA F H locs ls hP hS hl T hT X
  obtain ⟨t, a, o, b1, b2, ⟨⟨rv, J, M, c1, c2, c3⟩, c4⟩, b4⟩ := K p l e s m args below meth c A dC dI dA F H locs ls hP hS hl T hT X
  exact ⟨t, a, o, b1, b2, ⟨⟨rv, J, M, c1, h _ _ _ c2, c3⟩, c4⟩, b4⟩
theorem r_iload_n {k : Fin 4} {x : Int32} (hdg : decode y.1 pc = .ok (.iload_n k, 1)) (hk : fd_lk lv k.val = some (.int x)) (K : Rn S α y (pc + 1) lv (.int x :: st) I L Q) : Rn S α y pc lv (st) I L Q := by
  intro p l e s m args below meth c A dC dI dA F H locs ls hP hS hl
  exact lv_iload_n F.1 F.2.1 hdg rfl (fd_lk_at hl hk) (K p l e s m args below meth c A dC dI dA F H locs ls hP hS hl)
theorem r_iload {i : Nat} {x : Int32} (hdg : decode y.1 pc = .ok (.iload i, 2)) (hk : fd_lk lv i = some (.int x)) (K : Rn S α y (pc + 2) lv (.int x :: st) I L Q) : Rn S α y pc lv (st) I L Q := by
  intro p l e s m args below meth c A dC dI dA F H locs ls hP hS hl
  exact lv_iload F.1 F.2.1 hdg (fd_lk_at hl hk) (K p l e s m args below meth c A dC dI dA F H locs ls hP hS hl)
theorem r_lload_n {k : Fin 4} {x : Int64} (hdg : decode y.1 pc = .ok (.lload_n k, 1)) (hk : fd_lk lv k.val = some (.long x)) (K : Rn S α y (pc + 1) lv (.long x :: st) I L Q) : Rn S α y pc lv (st) I L Q := by
  intro p l e s m args below meth c A dC dI dA F H locs ls hP hS hl
  exact lv_lload_n F.1 F.2.1 hdg rfl (fd_lk_at hl hk) (K p l e s m args below meth c A dC dI dA F H locs ls hP hS hl)
theorem r_lload {i : Nat} {x : Int64} (hdg : decode y.1 pc = .ok (.lload i, 2)) (hk : fd_lk lv i = some (.long x)) (K : Rn S α y (pc + 2) lv (.long x :: st) I L Q) : Rn S α y pc lv (st) I L Q := by
  intro p l e s m args below meth c A dC dI dA F H locs ls hP hS hl
  exact lv_lload F.1 F.2.1 hdg (fd_lk_at hl hk) (K p l e s m args below meth c A dC dI dA F H locs ls hP hS hl)
theorem r_aload_n {k : Fin 4} {x : Nat} (hdg : decode y.1 pc = .ok (.aload_n k, 1)) (hk : fd_lk lv k.val = some (.ref x)) (K : Rn S α y (pc + 1) lv (.ref x :: st) I L Q) : Rn S α y pc lv (st) I L Q := by
  intro p l e s m args below meth c A dC dI dA F H locs ls hP hS hl
  exact lv_aload_n F.1 F.2.1 hdg rfl (fd_lk_at hl hk) (K p l e s m args below meth c A dC dI dA F H locs ls hP hS hl)
theorem r_aload {i : Nat} {x : Nat} (hdg : decode y.1 pc = .ok (.aload i, 2)) (hk : fd_lk lv i = some (.ref x)) (K : Rn S α y (pc + 2) lv (.ref x :: st) I L Q) : Rn S α y pc lv (st) I L Q := by
  intro p l e s m args below meth c A dC dI dA F H locs ls hP hS hl
  exact lv_aload F.1 F.2.1 hdg (fd_lk_at hl hk) (K p l e s m args below meth c A dC dI dA F H locs ls hP hS hl)
theorem r_istore_n {k : Fin 4} {x : Int32} (hdg : decode y.1 pc = .ok (.istore_n k, 1)) (hn : k.val < y.2.1) (hl' : fd_s1 lv k.val (.int x) = lv') (K : Rn S α y (pc + 1) lv' (st) I L Q) : Rn S α y pc lv (.int x :: st) I L Q := by
  intro p l e s m args below meth c A dC dI dA F H locs ls hP hS hl
  exact lv_istore_n F.1 F.2.1 hdg rfl hl hn hl' (fun ls hl => K p l e s m args below meth c A dC dI dA F H locs ls hP hS hl)
theorem r_istore {i : Nat} {x : Int32} (hdg : decode y.1 pc = .ok (.istore i, 2)) (hn : i < y.2.1) (hl' : fd_s1 lv i (.int x) = lv') (K : Rn S α y (pc + 2) lv' (st) I L Q) : Rn S α y pc lv (.int x :: st) I L Q := by
  intro p l e s m args below meth c A dC dI dA F H locs ls hP hS hl
  exact lv_istore F.1 F.2.1 hdg hl hn hl' (fun ls hl => K p l e s m args below meth c A dC dI dA F H locs ls hP hS hl)
theorem r_lstore_n {k : Fin 4} {x : Int64} (hdg : decode y.1 pc = .ok (.lstore_n k, 1)) (hn : k.val + 1 < y.2.1) (hl' : fd_s2 lv k.val (.long x) = lv') (K : Rn S α y (pc + 1) lv' (st) I L Q) : Rn S α y pc lv (.long x :: st) I L Q := by
  intro p l e s m args below meth c A dC dI dA F H locs ls hP hS hl
  exact lv_lstore_n F.1 F.2.1 hdg rfl hl hn hl' (fun ls hl => K p l e s m args below meth c A dC dI dA F H locs ls hP hS hl)
theorem r_lstore {i : Nat} {x : Int64} (hdg : decode y.1 pc = .ok (.lstore i, 2)) (hn : i + 1 < y.2.1) (hl' : fd_s2 lv i (.long x) = lv') (K : Rn S α y (pc + 2) lv' (st) I L Q) : Rn S α y pc lv (.long x :: st) I L Q := by
  intro p l e s m args below meth c A dC dI dA F H locs ls hP hS hl
  exact lv_lstore F.1 F.2.1 hdg hl hn hl' (fun ls hl => K p l e s m args below meth c A dC dI dA F H locs ls hP hS hl)
theorem r_astore_n {k : Fin 4} {x : Nat} (hdg : decode y.1 pc = .ok (.astore_n k, 1)) (hn : k.val < y.2.1) (hl' : fd_s1 lv k.val (.ref x) = lv') (K : Rn S α y (pc + 1) lv' (st) I L Q) : Rn S α y pc lv (.ref x :: st) I L Q := by
  intro p l e s m args below meth c A dC dI dA F H locs ls hP hS hl
  exact lv_astore_n F.1 F.2.1 hdg rfl hl hn hl' (fun ls hl => K p l e s m args below meth c A dC dI dA F H locs ls hP hS hl)
theorem r_astore {i : Nat} {x : Nat} (hdg : decode y.1 pc = .ok (.astore i, 2)) (hn : i < y.2.1) (hl' : fd_s1 lv i (.ref x) = lv') (K : Rn S α y (pc + 2) lv' (st) I L Q) : Rn S α y pc lv (.ref x :: st) I L Q := by
  intro p l e s m args below meth c A dC dI dA F H locs ls hP hS hl
  exact lv_astore F.1 F.2.1 hdg hl hn hl' (fun ls hl => K p l e s m args below meth c A dC dI dA F H locs ls hP hS hl)
theorem fd_lk_pl {lv : List (Nat × Value)} {i : Nat} {v : Value} (hk : fd_lk lv i = some v) : ∃ k : Nat, lv[k]? = some (i, v) := by
  induction lv with
  | nil => cases hk
  | cons a t ih =>
    obtain ⟨j, w⟩ := a
    unfold fd_lk at hk
    cases hb : Nat.beq j i with
    | true =>
      rw [hb] at hk
      cases hk
      rw [Nat.eq_of_beq_eq_true hb]
      exact ⟨0, rfl⟩
    | false =>
      rw [hb] at hk
      obtain ⟨k, h⟩ := ih hk
      exact ⟨k + 1, h⟩
theorem r_iinc {i : Nat} {n : Int} {x v : Int32} (hdg : decode y.1 pc = .ok (.iinc i n, 3)) (hk : fd_lk lv i = some (.int x)) (hv : x + Int32.ofInt n = v) (hn : i < y.2.1) (hl' : fd_s1 lv i (.int v) = lv') (K : Rn S α y (pc + 3) lv' (st) I L Q) : Rn S α y pc lv (st) I L Q := by
  intro p l e s m args below meth c A dC dI dA F H locs ls hP hS hl
  obtain ⟨k, hk2⟩ := fd_lk_pl hk
  exact lv_iinc F.1 F.2.1 hdg hl hk2 hv hn hl' (fun ls hl => K p l e s m args below meth c A dC dI dA F H locs ls hP hS hl)
theorem r_iconst {n : Int} {v : Int32} (hdg : decode y.1 pc = .ok (.iconst n, 1)) (hv : Int32.ofInt n = v) (K : Rn S α y (pc + 1) lv (.int v :: st) I L Q) : Rn S α y pc lv (st) I L Q := by
  intro p l e s m args below meth c A dC dI dA F H locs ls hP hS hl
  exact lv_iconst F.1 F.2.1 hdg hv (K p l e s m args below meth c A dC dI dA F H locs ls hP hS hl)
theorem r_bipush {n : Int} {v : Int32} (hdg : decode y.1 pc = .ok (.bipush n, 2)) (hv : (Int8.ofInt n).toInt32 = v) (K : Rn S α y (pc + 2) lv (.int v :: st) I L Q) : Rn S α y pc lv (st) I L Q := by
  intro p l e s m args below meth c A dC dI dA F H locs ls hP hS hl
  exact lv_bipush F.1 F.2.1 hdg hv (K p l e s m args below meth c A dC dI dA F H locs ls hP hS hl)
theorem r_sipush {n : Int} {v : Int32} (hdg : decode y.1 pc = .ok (.sipush n, 3)) (hv : (Int16.ofInt n).toInt32 = v) (K : Rn S α y (pc + 3) lv (.int v :: st) I L Q) : Rn S α y pc lv (st) I L Q := by
  intro p l e s m args below meth c A dC dI dA F H locs ls hP hS hl
  exact lv_sipush F.1 F.2.1 hdg hv (K p l e s m args below meth c A dC dI dA F H locs ls hP hS hl)
theorem r_lconst {n : Fin 2} {v : Int64} (hdg : decode y.1 pc = .ok (.lconst n, 1)) (hv : Int64.ofNat (n : Nat) = v) (K : Rn S α y (pc + 1) lv (.long v :: st) I L Q) : Rn S α y pc lv (st) I L Q := by
  intro p l e s m args below meth c A dC dI dA F H locs ls hP hS hl
  exact lv_lconst F.1 F.2.1 hdg hv (K p l e s m args below meth c A dC dI dA F H locs ls hP hS hl)
theorem r_ldc2 {index : Nat} {v : Int64} (hw : Cond.constantLong y.2.2.1 index v ∈ fd_tb) (hdg : decode y.1 pc = .ok (.ldc2_w index, 3)) (K : Rn S α y (pc + 3) lv (.long v :: st) I L Q) : Rn S α y pc lv (st) I L Q := by
  intro p l e s m args below meth c A dC dI dA F H locs ls hP hS hl
  exact lv_ldc2 F.1 F.2.1 F.2.2.2.1 (F.2.2.2.2.2.2.1 _ hw) hdg (K p l e s m args below meth c A dC dI dA F H locs ls hP hS hl)
theorem r_iadd {x z : Int32} (hdg : decode y.1 pc = .ok (.iadd, 1)) (K : Rn S α y (pc + 1) lv (.int (x + z) :: st) I L Q) : Rn S α y pc lv (.int z :: .int x :: st) I L Q := by
  intro p l e s m args below meth c A dC dI dA F H locs ls hP hS hl
  exact lv_iadd F.1 F.2.1 hdg (K p l e s m args below meth c A dC dI dA F H locs ls hP hS hl)
theorem r_isub {x z : Int32} (hdg : decode y.1 pc = .ok (.isub, 1)) (K : Rn S α y (pc + 1) lv (.int (x - z) :: st) I L Q) : Rn S α y pc lv (.int z :: .int x :: st) I L Q := by
  intro p l e s m args below meth c A dC dI dA F H locs ls hP hS hl
  exact lv_isub F.1 F.2.1 hdg (K p l e s m args below meth c A dC dI dA F H locs ls hP hS hl)
theorem r_imul {x z : Int32} (hdg : decode y.1 pc = .ok (.imul, 1)) (K : Rn S α y (pc + 1) lv (.int (x * z) :: st) I L Q) : Rn S α y pc lv (.int z :: .int x :: st) I L Q := by
  intro p l e s m args below meth c A dC dI dA F H locs ls hP hS hl
  exact lv_imul F.1 F.2.1 hdg (K p l e s m args below meth c A dC dI dA F H locs ls hP hS hl)
theorem r_iand {x z : Int32} (hdg : decode y.1 pc = .ok (.iand, 1)) (K : Rn S α y (pc + 1) lv (.int (x &&& z) :: st) I L Q) : Rn S α y pc lv (.int z :: .int x :: st) I L Q := by
  intro p l e s m args below meth c A dC dI dA F H locs ls hP hS hl
  exact lv_iand F.1 F.2.1 hdg (K p l e s m args below meth c A dC dI dA F H locs ls hP hS hl)
theorem r_ior {x z : Int32} (hdg : decode y.1 pc = .ok (.ior, 1)) (K : Rn S α y (pc + 1) lv (.int (x ||| z) :: st) I L Q) : Rn S α y pc lv (.int z :: .int x :: st) I L Q := by
  intro p l e s m args below meth c A dC dI dA F H locs ls hP hS hl
  exact lv_ior F.1 F.2.1 hdg (K p l e s m args below meth c A dC dI dA F H locs ls hP hS hl)
theorem r_ixor {x z : Int32} (hdg : decode y.1 pc = .ok (.ixor, 1)) (K : Rn S α y (pc + 1) lv (.int (x ^^^ z) :: st) I L Q) : Rn S α y pc lv (.int z :: .int x :: st) I L Q := by
  intro p l e s m args below meth c A dC dI dA F H locs ls hP hS hl
  exact lv_ixor F.1 F.2.1 hdg (K p l e s m args below meth c A dC dI dA F H locs ls hP hS hl)
theorem r_ishl {x z : Int32} (hdg : decode y.1 pc = .ok (.ishl, 1)) (K : Rn S α y (pc + 1) lv (.int (x <<< (z &&& 31)) :: st) I L Q) : Rn S α y pc lv (.int z :: .int x :: st) I L Q := by
  intro p l e s m args below meth c A dC dI dA F H locs ls hP hS hl
  exact lv_ishl F.1 F.2.1 hdg (K p l e s m args below meth c A dC dI dA F H locs ls hP hS hl)
theorem r_ishr {x z : Int32} (hdg : decode y.1 pc = .ok (.ishr, 1)) (K : Rn S α y (pc + 1) lv (.int (x >>> (z &&& 31)) :: st) I L Q) : Rn S α y pc lv (.int z :: .int x :: st) I L Q := by
  intro p l e s m args below meth c A dC dI dA F H locs ls hP hS hl
  exact lv_ishr F.1 F.2.1 hdg (K p l e s m args below meth c A dC dI dA F H locs ls hP hS hl)
theorem r_idiv {x z : Int32} (hdg : decode y.1 pc = .ok (.idiv, 1)) (hne : ¬ z = 0) (K : Rn S α y (pc + 1) lv (.int (x / z) :: st) I L Q) : Rn S α y pc lv (.int z :: .int x :: st) I L Q := by
  intro p l e s m args below meth c A dC dI dA F H locs ls hP hS hl
  exact lv_idiv F.1 F.2.1 hdg hne (K p l e s m args below meth c A dC dI dA F H locs ls hP hS hl)
theorem r_irem {x z : Int32} (hdg : decode y.1 pc = .ok (.irem, 1)) (hne : ¬ z = 0) (K : Rn S α y (pc + 1) lv (.int (x - x / z * z) :: st) I L Q) : Rn S α y pc lv (.int z :: .int x :: st) I L Q := by
  intro p l e s m args below meth c A dC dI dA F H locs ls hP hS hl
  exact lv_irem F.1 F.2.1 hdg hne (K p l e s m args below meth c A dC dI dA F H locs ls hP hS hl)
theorem r_ladd {x z : Int64} (hdg : decode y.1 pc = .ok (.ladd, 1)) (K : Rn S α y (pc + 1) lv (.long (x + z) :: st) I L Q) : Rn S α y pc lv (.long z :: .long x :: st) I L Q := by
  intro p l e s m args below meth c A dC dI dA F H locs ls hP hS hl
  exact lv_ladd F.1 F.2.1 hdg (K p l e s m args below meth c A dC dI dA F H locs ls hP hS hl)
theorem r_lmul {x z : Int64} (hdg : decode y.1 pc = .ok (.lmul, 1)) (K : Rn S α y (pc + 1) lv (.long (x * z) :: st) I L Q) : Rn S α y pc lv (.long z :: .long x :: st) I L Q := by
  intro p l e s m args below meth c A dC dI dA F H locs ls hP hS hl
  exact lv_lmul F.1 F.2.1 hdg (K p l e s m args below meth c A dC dI dA F H locs ls hP hS hl)
theorem r_ldiv {x z : Int64} (hdg : decode y.1 pc = .ok (.ldiv, 1)) (hne : ¬ z = 0) (K : Rn S α y (pc + 1) lv (.long (x / z) :: st) I L Q) : Rn S α y pc lv (.long z :: .long x :: st) I L Q := by
  intro p l e s m args below meth c A dC dI dA F H locs ls hP hS hl
  exact lv_ldiv F.1 F.2.1 hdg hne (K p l e s m args below meth c A dC dI dA F H locs ls hP hS hl)
theorem r_lrem {x z : Int64} (hdg : decode y.1 pc = .ok (.lrem, 1)) (hne : ¬ z = 0) (K : Rn S α y (pc + 1) lv (.long (x - x / z * z) :: st) I L Q) : Rn S α y pc lv (.long z :: .long x :: st) I L Q := by
  intro p l e s m args below meth c A dC dI dA F H locs ls hP hS hl
  exact lv_lrem F.1 F.2.1 hdg hne (K p l e s m args below meth c A dC dI dA F H locs ls hP hS hl)
theorem r_i2l {x : Int32} {v : Int64} (hdg : decode y.1 pc = .ok (.i2l, 1)) (hv : x.toInt64 = v) (K : Rn S α y (pc + 1) lv (.long v :: st) I L Q) : Rn S α y pc lv (.int x :: st) I L Q := by
  intro p l e s m args below meth c A dC dI dA F H locs ls hP hS hl
  exact lv_i2l F.1 F.2.1 hdg hv (K p l e s m args below meth c A dC dI dA F H locs ls hP hS hl)
theorem r_i2b {x v : Int32} (hdg : decode y.1 pc = .ok (.i2b, 1)) (hv : x.toInt8.toInt32 = v) (K : Rn S α y (pc + 1) lv (.int v :: st) I L Q) : Rn S α y pc lv (.int x :: st) I L Q := by
  intro p l e s m args below meth c A dC dI dA F H locs ls hP hS hl
  exact lv_i2b F.1 F.2.1 hdg hv (K p l e s m args below meth c A dC dI dA F H locs ls hP hS hl)
theorem r_i2c {x v : Int32} (hdg : decode y.1 pc = .ok (.i2c, 1)) (hv : (x.toUInt32 % 65536).toInt32 = v) (K : Rn S α y (pc + 1) lv (.int v :: st) I L Q) : Rn S α y pc lv (.int x :: st) I L Q := by
  intro p l e s m args below meth c A dC dI dA F H locs ls hP hS hl
  exact lv_i2c F.1 F.2.1 hdg hv (K p l e s m args below meth c A dC dI dA F H locs ls hP hS hl)
theorem r_dup {v : Value} (hdg : decode y.1 pc = .ok (.dup, 1)) (hv : v.category = 1) (K : Rn S α y (pc + 1) lv (v :: v :: st) I L Q) : Rn S α y pc lv (v :: st) I L Q := by
  intro p l e s m args below meth c A dC dI dA F H locs ls hP hS hl
  exact lv_dup F.1 F.2.1 hdg hv (K p l e s m args below meth c A dC dI dA F H locs ls hP hS hl)
theorem r_pop {v : Value} (hdg : decode y.1 pc = .ok (.pop, 1)) (hv : v.category = 1) (K : Rn S α y (pc + 1) lv (st) I L Q) : Rn S α y pc lv (v :: st) I L Q := by
  intro p l e s m args below meth c A dC dI dA F H locs ls hP hS hl
  exact lv_pop F.1 F.2.1 hdg hv (K p l e s m args below meth c A dC dI dA F H locs ls hP hS hl)
theorem r_goto {off : Int} {tgt : Nat} (hdg : decode y.1 pc = .ok (.goto off, 3)) (ht : (pc : Int) + off = (tgt : Int)) (K : Rn S α y tgt lv st I L Q) : Rn S α y pc lv st I L Q := by
  intro p l e s m args below meth c A dC dI dA F H locs ls hP hS hl
  exact lv_goto F.1 F.2.1 hdg ht (K p l e s m args below meth c A dC dI dA F H locs ls hP hS hl)
theorem r_if_eq {x : Int32} {off : Int} (tgt : Nat) (hdg : decode y.1 pc = .ok (.ifCond .eq off, 3)) (ht : (pc : Int) + off = (tgt : Int)) (KT : x = 0 → Rn S α y tgt lv st I L Q) (KF : ¬ x = 0 → Rn S α y (pc + 3) lv st I L Q) : Rn S α y pc lv (.int x :: st) I L Q := by
  intro p l e s m args below meth c A dC dI dA F H locs ls hP hS hl
  exact lv_if_eq F.1 F.2.1 hdg ht (fun h => KT h p l e s m args below meth c A dC dI dA F H locs ls hP hS hl) (fun h => KF h p l e s m args below meth c A dC dI dA F H locs ls hP hS hl)
theorem r_if_ne {x : Int32} {off : Int} (tgt : Nat) (hdg : decode y.1 pc = .ok (.ifCond .ne off, 3)) (ht : (pc : Int) + off = (tgt : Int)) (KT : ¬ x = 0 → Rn S α y tgt lv st I L Q) (KF : x = 0 → Rn S α y (pc + 3) lv st I L Q) : Rn S α y pc lv (.int x :: st) I L Q := by
  intro p l e s m args below meth c A dC dI dA F H locs ls hP hS hl
  exact lv_if_ne F.1 F.2.1 hdg ht (fun h => KT h p l e s m args below meth c A dC dI dA F H locs ls hP hS hl) (fun h => KF h p l e s m args below meth c A dC dI dA F H locs ls hP hS hl)
theorem r_if_lt {x : Int32} {off : Int} (tgt : Nat) (hdg : decode y.1 pc = .ok (.ifCond .lt off, 3)) (ht : (pc : Int) + off = (tgt : Int)) (KT : x < 0 → Rn S α y tgt lv st I L Q) (KF : ¬ x < 0 → Rn S α y (pc + 3) lv st I L Q) : Rn S α y pc lv (.int x :: st) I L Q := by
  intro p l e s m args below meth c A dC dI dA F H locs ls hP hS hl
  exact lv_if_lt F.1 F.2.1 hdg ht (fun h => KT h p l e s m args below meth c A dC dI dA F H locs ls hP hS hl) (fun h => KF h p l e s m args below meth c A dC dI dA F H locs ls hP hS hl)
theorem r_if_ge {x : Int32} {off : Int} (tgt : Nat) (hdg : decode y.1 pc = .ok (.ifCond .ge off, 3)) (ht : (pc : Int) + off = (tgt : Int)) (KT : 0 ≤ x → Rn S α y tgt lv st I L Q) (KF : ¬ 0 ≤ x → Rn S α y (pc + 3) lv st I L Q) : Rn S α y pc lv (.int x :: st) I L Q := by
  intro p l e s m args below meth c A dC dI dA F H locs ls hP hS hl
  exact lv_if_ge F.1 F.2.1 hdg ht (fun h => KT h p l e s m args below meth c A dC dI dA F H locs ls hP hS hl) (fun h => KF h p l e s m args below meth c A dC dI dA F H locs ls hP hS hl)
theorem r_if_gt {x : Int32} {off : Int} (tgt : Nat) (hdg : decode y.1 pc = .ok (.ifCond .gt off, 3)) (ht : (pc : Int) + off = (tgt : Int)) (KT : 0 < x → Rn S α y tgt lv st I L Q) (KF : ¬ 0 < x → Rn S α y (pc + 3) lv st I L Q) : Rn S α y pc lv (.int x :: st) I L Q := by
  intro p l e s m args below meth c A dC dI dA F H locs ls hP hS hl
  exact lv_if_gt F.1 F.2.1 hdg ht (fun h => KT h p l e s m args below meth c A dC dI dA F H locs ls hP hS hl) (fun h => KF h p l e s m args below meth c A dC dI dA F H locs ls hP hS hl)
theorem r_if_le {x : Int32} {off : Int} (tgt : Nat) (hdg : decode y.1 pc = .ok (.ifCond .le off, 3)) (ht : (pc : Int) + off = (tgt : Int)) (KT : x ≤ 0 → Rn S α y tgt lv st I L Q) (KF : ¬ x ≤ 0 → Rn S α y (pc + 3) lv st I L Q) : Rn S α y pc lv (.int x :: st) I L Q := by
  intro p l e s m args below meth c A dC dI dA F H locs ls hP hS hl
  exact lv_if_le F.1 F.2.1 hdg ht (fun h => KT h p l e s m args below meth c A dC dI dA F H locs ls hP hS hl) (fun h => KF h p l e s m args below meth c A dC dI dA F H locs ls hP hS hl)
theorem r_icmp_eq {x z : Int32} {off : Int} (tgt : Nat) (hdg : decode y.1 pc = .ok (.if_icmp .eq off, 3)) (ht : (pc : Int) + off = (tgt : Int)) (KT : x = z → Rn S α y tgt lv st I L Q) (KF : ¬ x = z → Rn S α y (pc + 3) lv st I L Q) : Rn S α y pc lv (.int z :: .int x :: st) I L Q := by
  intro p l e s m args below meth c A dC dI dA F H locs ls hP hS hl
  exact lv_icmp_eq F.1 F.2.1 hdg ht (fun h => KT h p l e s m args below meth c A dC dI dA F H locs ls hP hS hl) (fun h => KF h p l e s m args below meth c A dC dI dA F H locs ls hP hS hl)
theorem r_icmp_ne {x z : Int32} {off : Int} (tgt : Nat) (hdg : decode y.1 pc = .ok (.if_icmp .ne off, 3)) (ht : (pc : Int) + off = (tgt : Int)) (KT : ¬ x = z → Rn S α y tgt lv st I L Q) (KF : x = z → Rn S α y (pc + 3) lv st I L Q) : Rn S α y pc lv (.int z :: .int x :: st) I L Q := by
  intro p l e s m args below meth c A dC dI dA F H locs ls hP hS hl
  exact lv_icmp_ne F.1 F.2.1 hdg ht (fun h => KT h p l e s m args below meth c A dC dI dA F H locs ls hP hS hl) (fun h => KF h p l e s m args below meth c A dC dI dA F H locs ls hP hS hl)
theorem r_icmp_lt {x z : Int32} {off : Int} (tgt : Nat) (hdg : decode y.1 pc = .ok (.if_icmp .lt off, 3)) (ht : (pc : Int) + off = (tgt : Int)) (KT : x < z → Rn S α y tgt lv st I L Q) (KF : ¬ x < z → Rn S α y (pc + 3) lv st I L Q) : Rn S α y pc lv (.int z :: .int x :: st) I L Q := by
  intro p l e s m args below meth c A dC dI dA F H locs ls hP hS hl
  exact lv_icmp_lt F.1 F.2.1 hdg ht (fun h => KT h p l e s m args below meth c A dC dI dA F H locs ls hP hS hl) (fun h => KF h p l e s m args below meth c A dC dI dA F H locs ls hP hS hl)
theorem r_icmp_ge {x z : Int32} {off : Int} (tgt : Nat) (hdg : decode y.1 pc = .ok (.if_icmp .ge off, 3)) (ht : (pc : Int) + off = (tgt : Int)) (KT : z ≤ x → Rn S α y tgt lv st I L Q) (KF : ¬ z ≤ x → Rn S α y (pc + 3) lv st I L Q) : Rn S α y pc lv (.int z :: .int x :: st) I L Q := by
  intro p l e s m args below meth c A dC dI dA F H locs ls hP hS hl
  exact lv_icmp_ge F.1 F.2.1 hdg ht (fun h => KT h p l e s m args below meth c A dC dI dA F H locs ls hP hS hl) (fun h => KF h p l e s m args below meth c A dC dI dA F H locs ls hP hS hl)
theorem r_icmp_gt {x z : Int32} {off : Int} (tgt : Nat) (hdg : decode y.1 pc = .ok (.if_icmp .gt off, 3)) (ht : (pc : Int) + off = (tgt : Int)) (KT : z < x → Rn S α y tgt lv st I L Q) (KF : ¬ z < x → Rn S α y (pc + 3) lv st I L Q) : Rn S α y pc lv (.int z :: .int x :: st) I L Q := by
  intro p l e s m args below meth c A dC dI dA F H locs ls hP hS hl
  exact lv_icmp_gt F.1 F.2.1 hdg ht (fun h => KT h p l e s m args below meth c A dC dI dA F H locs ls hP hS hl) (fun h => KF h p l e s m args below meth c A dC dI dA F H locs ls hP hS hl)
theorem r_icmp_le {x z : Int32} {off : Int} (tgt : Nat) (hdg : decode y.1 pc = .ok (.if_icmp .le off, 3)) (ht : (pc : Int) + off = (tgt : Int)) (KT : x ≤ z → Rn S α y tgt lv st I L Q) (KF : ¬ x ≤ z → Rn S α y (pc + 3) lv st I L Q) : Rn S α y pc lv (.int z :: .int x :: st) I L Q := by
  intro p l e s m args below meth c A dC dI dA F H locs ls hP hS hl
  exact lv_icmp_le F.1 F.2.1 hdg ht (fun h => KT h p l e s m args below meth c A dC dI dA F H locs ls hP hS hl) (fun h => KF h p l e s m args below meth c A dC dI dA F H locs ls hP hS hl)
theorem r_ifnull {x : Nat} {off : Int} (hdg : decode y.1 pc = .ok (.ifnull off, 3)) (K : Rn S α y (pc + 3) lv (st) I L Q) : Rn S α y pc lv (.ref x :: st) I L Q := by
  intro p l e s m args below meth c A dC dI dA F H locs ls hP hS hl
  exact lv_ifnull F.1 F.2.1 hdg (K p l e s m args below meth c A dC dI dA F H locs ls hP hS hl)
theorem r_lcmp {x z : Int64} (hdg : decode y.1 pc = .ok (.lcmp, 1)) (K : Rn S α y (pc + 1) lv (.int (lg_cmp x z) :: st) I L Q) : Rn S α y pc lv (.long z :: .long x :: st) I L Q := by
  intro p l e s m args below meth c A dC dI dA F H locs ls hP hS hl
  exact W.lcmp F.1 F.2.1 hdg (K p l e s m args below meth c A dC dI dA F H locs ls hP hS hl)
theorem r_dup2 {v u : Value} (hdg : decode y.1 pc = .ok (.dup2, 1)) (hv : v.category = 1) (hu : u.category = 1) (K : Rn S α y (pc + 1) lv (v :: u :: v :: u :: st) I L Q) : Rn S α y pc lv (v :: u :: st) I L Q := by
  intro p l e s m args below meth c A dC dI dA F H locs ls hP hS hl
  exact lv_dup2_11 F.1 F.2.1 hdg hv hu (K p l e s m args below meth c A dC dI dA F H locs ls hP hS hl)
theorem r_dup_x1 {v u : Value} (hdg : decode y.1 pc = .ok (.dup_x1, 1)) (hv : v.category = 1) (hu : u.category = 1) (K : Rn S α y (pc + 1) lv (v :: u :: v :: st) I L Q) : Rn S α y pc lv (v :: u :: st) I L Q := by
  intro p l e s m args below meth c A dC dI dA F H locs ls hP hS hl
  exact lv_dup_x1 F.1 F.2.1 hdg hv hu (K p l e s m args below meth c A dC dI dA F H locs ls hP hS hl)
theorem r_tswOut {dflt lo hi : Int} {offs : Array Int} {len : Nat} {x : Int32} {tgt : Nat} (hdg : decode y.1 pc = .ok (.tableswitch dflt lo hi offs, len)) (h : x.toInt < lo ∨ hi < x.toInt) (ht : (pc : Int) + dflt = (tgt : Int)) (K : Rn S α y tgt lv st I L Q) : Rn S α y pc lv (.int x :: st) I L Q := by
  intro p l e s m args below meth c A dC dI dA F H locs ls hP hS hl
  exact lv_tableOut F.1 F.2.1 hdg h ht (K p l e s m args below meth c A dC dI dA F H locs ls hP hS hl)
theorem r_tswIn {dflt lo hi : Int} {offs : Array Int} {len : Nat} {x : Int32} {off : Int} {tgt : Nat} (hdg : decode y.1 pc = .ok (.tableswitch dflt lo hi offs, len)) (h1 : ¬ x.toInt < lo) (h2 : ¬ hi < x.toInt) (ho : offs[(x.toInt - lo).toNat]? = some off) (ht : (pc : Int) + off = (tgt : Int)) (K : Rn S α y tgt lv st I L Q) : Rn S α y pc lv (.int x :: st) I L Q := by
  intro p l e s m args below meth c A dC dI dA F H locs ls hP hS hl
  exact lv_tableIn F.1 F.2.1 hdg h1 h2 ho ht (K p l e s m args below meth c A dC dI dA F H locs ls hP hS hl)
end FDR
/-- a field's link: from the class own by its entry idx to the field j of the class ci -/
def fd_fl (own : String) (idx ci j : Nat) : Prop := ∃ r : vw_C, vwCl[ci]? = some r ∧ j < r.2.2 ∧ Cond.fieldLink own idx (r.2.1 j).1 (r.2.1 j).2.1 (r.2.1 j).2.2.1 ∈ fd_tb
/-- that it may be written, with its type -/
def fd_fw (ci j : Nat) (ty : FieldType) : Prop := ∀ r : vw_C, vwCl[ci]? = some r → (r.2.1 j).2.2.2 = false ∧ parseFieldDescriptor (r.2.1 j).2.2.1 = some ty
def fd_okC (r : vw_C) : Prop := (∀ w ∈ u_ws r.1 r.2.1 r.2.2, w ∈ fd_tb) ∧ (∃ ty : Nat → FieldType, ∀ k, k < r.2.2 → parseFieldDescriptor (r.2.1 k).2.2.1 = some (ty k)) ∧ ∀ a, a < r.2.2 → ∀ b, b < r.2.2 → a ≠ b → (r.2.1 a).2.1 ≠ (r.2.1 b).2.1
theorem fd_okL {ws : List Cond} (ps : List Nat) (h : ws = ps.filterMap (fun i => lw_tbl[i]?)) (hg : ws.all goodWord = true) : ∀ w ∈ ws, w ∈ fd_tb := by
  intro w hw
  have h1 := List.all_eq_true.mp hg w hw
  rw [h] at hw
  obtain ⟨i, -, hi⟩ := List.mem_filterMap.mp hw
  exact fd_in i hi h1
theorem fd_ok0 : fd_okC (RX0, TX0, 0) := ⟨fd_okL [] (by decide +kernel) (by decide +kernel), ⟨tyX0, tyX0_ok⟩, nmX0⟩
theorem fd_ok1 : fd_okC (RX1, TX1, 0) := ⟨fd_okL [] (by decide +kernel) (by decide +kernel), ⟨tyX1, tyX1_ok⟩, nmX1⟩
theorem fd_ok2 : fd_okC (RX2, TX2, 11) := ⟨fd_okL [230, 232, 234, 236, 238, 240, 242, 244, 246, 248, 250] (by decide +kernel) (by decide +kernel), ⟨tyX2, tyX2_ok⟩, nmX2⟩
theorem fd_ok3 : fd_okC (RX3, TX3, 0) := ⟨fd_okL [] (by decide +kernel) (by decide +kernel), ⟨tyX3, tyX3_ok⟩, nmX3⟩
theorem fd_ok4 : fd_okC (RX4, TX4, 0) := ⟨fd_okL [] (by decide +kernel) (by decide +kernel), ⟨tyX4, tyX4_ok⟩, nmX4⟩
theorem fd_ok5 : fd_okC (RX5, TX5, 17) := ⟨fd_okL [133, 135, 137, 139, 141, 143, 145, 147, 149, 151, 153, 155, 157, 159, 161, 163, 165] (by decide +kernel) (by decide +kernel), ⟨tyX5, tyX5_ok⟩, nmX5⟩
theorem fd_ok6 : fd_okC (RX6, TX6, 5) := ⟨fd_okL [269, 271, 273, 275, 277] (by decide +kernel) (by decide +kernel), ⟨tyX6, tyX6_ok⟩, nmX6⟩
theorem fd_ok7 : fd_okC (RX7, TX7, 0) := ⟨fd_okL [] (by decide +kernel) (by decide +kernel), ⟨tyX7, tyX7_ok⟩, nmX7⟩
theorem fd_ok8 : fd_okC (RX8, TX8, 0) := ⟨fd_okL [] (by decide +kernel) (by decide +kernel), ⟨tyX8, tyX8_ok⟩, nmX8⟩
theorem fd_ok9 : fd_okC (RX9, TX9, 8) := ⟨fd_okL [187, 189, 191, 193, 195, 197, 199, 201] (by decide +kernel) (by decide +kernel), ⟨tyX9, tyX9_ok⟩, nmX9⟩
theorem fd_ok10 : fd_okC (RX10, TX10, 13) := ⟨fd_okL [334, 336, 338, 340, 342, 344, 346, 348, 350, 352, 354, 356, 358] (by decide +kernel) (by decide +kernel), ⟨tyX10, tyX10_ok⟩, nmX10⟩
theorem fd_ok11 : fd_okC (RX11, TX11, 39) := ⟨fd_okL [973, 975, 977, 979, 981, 983, 985, 987, 989, 991, 993, 995, 997, 999, 1001, 1003, 1005, 1007, 1009, 1011, 1013, 1015, 1017, 1019, 1021, 1023, 1025, 1027, 1029, 1031, 1033, 1035, 1037, 1039, 1041, 1043, 1045, 1047, 1049] (by decide +kernel) (by decide +kernel), ⟨tyX11, tyX11_ok⟩, nmX11⟩
theorem fd_okA : ∀ (ci : Nat) (r : vw_C), vwCl[ci]? = some r → fd_okC r := by
  intro ci r h
  match ci, h with
  | 0, h => cases h; exact fd_ok0
  | 1, h => cases h; exact fd_ok1
  | 2, h => cases h; exact fd_ok2
  | 3, h => cases h; exact fd_ok3
  | 4, h => cases h; exact fd_ok4
  | 5, h => cases h; exact fd_ok5
  | 6, h => cases h; exact fd_ok6
  | 7, h => cases h; exact fd_ok7
  | 8, h => cases h; exact fd_ok8
  | 9, h => cases h; exact fd_ok9
  | 10, h => cases h; exact fd_ok10
  | 11, h => cases h; exact fd_ok11
  | k + 12, h => cases h
section FDR2
variable {S : List fdE} {α : Nat → Nat} {y : fdM} {pc : Nat} {lv lv' : List (Nat × Value)} {st : List Value} {I I' : fdI} {L L' : fdL} {Q : Option Value → fdI → fdL → Prop}
theorem r_getI {k ci j idx : Nat} {ks : List Nat} (hS0 : S[k]? = some (.inl (ci, ks))) (hj : ks[j]? = some (0)) (hfl : fd_fl y.2.2.1 idx ci j) (hdg : decode y.1 pc = .ok (.getfield idx, 3)) (K : Rn S α y (pc + 3) lv (.int (I k j) :: st) I L Q) : Rn S α y pc lv (.ref (α k) :: st) I L Q := by
  intro p l e s m args below meth c A dC dI dA F H locs ls hP hS hl
  obtain ⟨r, hr, hjN, hw⟩ := hfl
  obtain ⟨c1, ⟨ty, hty⟩, c3⟩ := fd_okA ci r hr
  exact va_get F.1 F.2.1 F.2.2.2.2.2.2.1 c1 F.2.2.2.1 F.2.2.2.2.2.2.2.1 hP k (fd_get S α dA I L hS0) hr j hjN (F.2.2.2.2.2.2.1 _ hw) (fun x hx => hx) (by rw [List.getElem?_mapIdx, hj]; rfl) hdg (K p l e s m args below meth c A dC dI dA F H locs ls hP hS hl)
theorem r_getJ {k ci j idx : Nat} {ks : List Nat} (hS0 : S[k]? = some (.inl (ci, ks))) (hj : ks[j]? = some (1)) (hfl : fd_fl y.2.2.1 idx ci j) (hdg : decode y.1 pc = .ok (.getfield idx, 3)) (K : Rn S α y (pc + 3) lv (.long (L k j) :: st) I L Q) : Rn S α y pc lv (.ref (α k) :: st) I L Q := by
  intro p l e s m args below meth c A dC dI dA F H locs ls hP hS hl
  obtain ⟨r, hr, hjN, hw⟩ := hfl
  obtain ⟨c1, ⟨ty, hty⟩, c3⟩ := fd_okA ci r hr
  exact va_get F.1 F.2.1 F.2.2.2.2.2.2.1 c1 F.2.2.2.1 F.2.2.2.2.2.2.2.1 hP k (fd_get S α dA I L hS0) hr j hjN (F.2.2.2.2.2.2.1 _ hw) (fun x hx => hx) (by rw [List.getElem?_mapIdx, hj]; rfl) hdg (K p l e s m args below meth c A dC dI dA F H locs ls hP hS hl)
theorem r_getR {k ci j idx n : Nat} {ks : List Nat} (hS0 : S[k]? = some (.inl (ci, ks))) (hj : ks[j]? = some (n + 2)) (hfl : fd_fl y.2.2.1 idx ci j) (hdg : decode y.1 pc = .ok (.getfield idx, 3)) (K : Rn S α y (pc + 3) lv (.ref (α n) :: st) I L Q) : Rn S α y pc lv (.ref (α k) :: st) I L Q := by
  intro p l e s m args below meth c A dC dI dA F H locs ls hP hS hl
  obtain ⟨r, hr, hjN, hw⟩ := hfl
  obtain ⟨c1, ⟨ty, hty⟩, c3⟩ := fd_okA ci r hr
  exact va_get F.1 F.2.1 F.2.2.2.2.2.2.1 c1 F.2.2.2.1 F.2.2.2.2.2.2.2.1 hP k (fd_get S α dA I L hS0) hr j hjN (F.2.2.2.2.2.2.1 _ hw) (fun x hx => hx) (by rw [List.getElem?_mapIdx, hj]; rfl) hdg (K p l e s m args below meth c A dC dI dA F H locs ls hP hS hl)
theorem r_putI {k ci j idx : Nat} {ks : List Nat} {v : Int32} (hS0 : S[k]? = some (.inl (ci, ks))) (hj : ks[j]? = some (0)) (hfl : fd_fl y.2.2.1 idx ci j) (hfw : fd_fw ci j .int) (hdg : decode y.1 pc = .ok (.putfield idx, 3)) (K : Rn S α y (pc + 3) lv st (fd_up I k j v) L Q) : Rn S α y pc lv (.int v :: .ref (α k) :: st) I L Q := by
  intro p l e s m args below meth c A dC dI dA F H locs ls hP hS hl
  obtain ⟨r, hr, hjN, hw⟩ := hfl
  obtain ⟨c1, ⟨ty, hty⟩, c3⟩ := fd_okA ci r hr
  obtain ⟨hfin, hd⟩ := hfw r hr
  refine va_put F.1 F.2.1 F.2.2.2.2.2.2.1 c1 ty hty c3 F.2.2.2.1 F.2.2.2.2.2.2.2.1 hP (F.2.2.2.2.2.2.2.2.1 I L) hS k (fd_get S α dA I L hS0) hr j hjN (F.2.2.2.2.2.2.1 _ hw) (fun x hx => hx) hfin hd rfl rfl (by rw [List.length_mapIdx]; exact (List.getElem?_eq_some_iff.mp hj).1) hdg (fun H1 locs1 hP1 _ hS1 => ?_)
  rw [fd_wsI hS0 hj] at hP1
  exact K p l e s m args below meth c A dC dI dA F H1 locs1 ls hP1 hS1 hl
theorem r_putZ {k ci j idx : Nat} {ks : List Nat} {v : Int32} (hS0 : S[k]? = some (.inl (ci, ks))) (hj : ks[j]? = some (0)) (hfl : fd_fl y.2.2.1 idx ci j) (hfw : fd_fw ci j .boolean) (hv : v = 0 ∨ v = 1) (hdg : decode y.1 pc = .ok (.putfield idx, 3)) (K : Rn S α y (pc + 3) lv st (fd_up I k j v) L Q) : Rn S α y pc lv (.int v :: .ref (α k) :: st) I L Q := by
  intro p l e s m args below meth c A dC dI dA F H locs ls hP hS hl
  obtain ⟨r, hr, hjN, hw⟩ := hfl
  obtain ⟨c1, ⟨ty, hty⟩, c3⟩ := fd_okA ci r hr
  obtain ⟨hfin, hd⟩ := hfw r hr
  refine va_put F.1 F.2.1 F.2.2.2.2.2.2.1 c1 ty hty c3 F.2.2.2.1 F.2.2.2.2.2.2.2.1 hP (F.2.2.2.2.2.2.2.2.1 I L) hS k (fd_get S α dA I L hS0) hr j hjN (F.2.2.2.2.2.2.1 _ hw) (fun x hx => hx) hfin hd (by rcases hv with h | h <;> subst h <;> rfl) (by rcases hv with h | h <;> subst h <;> rfl) (by rw [List.length_mapIdx]; exact (List.getElem?_eq_some_iff.mp hj).1) hdg (fun H1 locs1 hP1 _ hS1 => ?_)
  rw [fd_wsI hS0 hj] at hP1
  exact K p l e s m args below meth c A dC dI dA F H1 locs1 ls hP1 hS1 hl
theorem r_putJ {k ci j idx : Nat} {ks : List Nat} {v : Int64} (hS0 : S[k]? = some (.inl (ci, ks))) (hj : ks[j]? = some (1)) (hfl : fd_fl y.2.2.1 idx ci j) (hfw : fd_fw ci j .long) (hdg : decode y.1 pc = .ok (.putfield idx, 3)) (K : Rn S α y (pc + 3) lv st I (fd_up L k j v) Q) : Rn S α y pc lv (.long v :: .ref (α k) :: st) I L Q := by
  intro p l e s m args below meth c A dC dI dA F H locs ls hP hS hl
  obtain ⟨r, hr, hjN, hw⟩ := hfl
  obtain ⟨c1, ⟨ty, hty⟩, c3⟩ := fd_okA ci r hr
  obtain ⟨hfin, hd⟩ := hfw r hr
  refine va_put F.1 F.2.1 F.2.2.2.2.2.2.1 c1 ty hty c3 F.2.2.2.1 F.2.2.2.2.2.2.2.1 hP (F.2.2.2.2.2.2.2.2.1 I L) hS k (fd_get S α dA I L hS0) hr j hjN (F.2.2.2.2.2.2.1 _ hw) (fun x hx => hx) hfin hd rfl rfl (by rw [List.length_mapIdx]; exact (List.getElem?_eq_some_iff.mp hj).1) hdg (fun H1 locs1 hP1 _ hS1 => ?_)
  rw [fd_wsJ hS0 hj] at hP1
  exact K p l e s m args below meth c A dC dI dA F H1 locs1 ls hP1 hS1 hl
theorem r_iald {k n : Nat} {i : Int32} (hS0 : S[k]? = some (.inr (.inl (0, n)))) (hdg : decode y.1 pc = .ok (.iaload, 1)) (hin : vp_in i n) (K : Rn S α y (pc + 1) lv (.int (I k i.toNatClampNeg) :: st) I L Q) : Rn S α y pc lv (.int i :: .ref (α k) :: st) I L Q := by
  intro p l e s m args below meth c A dC dI dA F H locs ls hP hS hl
  exact va_iald F.1 F.2.1 F.2.2.2.2.2.2.2.1 hP k 0 (fd_get S α dA I L hS0) rfl hin hdg (K p l e s m args below meth c A dC dI dA F H locs ls hP hS hl)
theorem r_zald {k n : Nat} {i : Int32} (hS0 : S[k]? = some (.inr (.inl (1, n)))) (hdg : decode y.1 pc = .ok (.baload, 1)) (hin : vp_in i n) (K : Rn S α y (pc + 1) lv (.int (I k i.toNatClampNeg) :: st) I L Q) : Rn S α y pc lv (.int i :: .ref (α k) :: st) I L Q := by
  intro p l e s m args below meth c A dC dI dA F H locs ls hP hS hl
  exact va_zald F.1 F.2.1 F.2.2.2.2.2.2.2.1 hP k 1 (fd_get S α dA I L hS0) rfl hin hdg (K p l e s m args below meth c A dC dI dA F H locs ls hP hS hl)
theorem r_bald {k n : Nat} {i : Int32} (hS0 : S[k]? = some (.inr (.inl (2, n)))) (hdg : decode y.1 pc = .ok (.baload, 1)) (hin : vp_in i n) (K : Rn S α y (pc + 1) lv (.int (I k i.toNatClampNeg) :: st) I L Q) : Rn S α y pc lv (.int i :: .ref (α k) :: st) I L Q := by
  intro p l e s m args below meth c A dC dI dA F H locs ls hP hS hl
  exact va_bald F.1 F.2.1 F.2.2.2.2.2.2.2.1 hP k 2 (fd_get S α dA I L hS0) rfl hin hdg (K p l e s m args below meth c A dC dI dA F H locs ls hP hS hl)
theorem r_iast {k n : Nat} {i x : Int32} (hS0 : S[k]? = some (.inr (.inl (0, n)))) (hdg : decode y.1 pc = .ok (.iastore, 1)) (hin : vp_in i n) (K : Rn S α y (pc + 1) lv st (fd_up I k i.toNatClampNeg x) L Q) : Rn S α y pc lv (.int x :: .int i :: .ref (α k) :: st) I L Q := by
  intro p l e s m args below meth c A dC dI dA F H locs ls hP hS hl
  refine va_iast F.1 F.2.1 F.2.2.2.2.2.2.2.1 hP (F.2.2.2.2.2.2.2.2.1 I L) hS k 0 (fd_get S α dA I L hS0) rfl hin hdg (fun H1 locs1 hP1 _ hS1 => ?_)
  skip
  rw [fd_wsA hS0] at hP1
  exact K p l e s m args below meth c A dC dI dA F H1 locs1 ls hP1 hS1 hl
theorem r_zast {k n : Nat} {i x : Int32} (hS0 : S[k]? = some (.inr (.inl (1, n)))) (hx : x = 0 ∨ x = 1) (hdg : decode y.1 pc = .ok (.bastore, 1)) (hin : vp_in i n) (K : Rn S α y (pc + 1) lv st (fd_up I k i.toNatClampNeg x) L Q) : Rn S α y pc lv (.int x :: .int i :: .ref (α k) :: st) I L Q := by
  intro p l e s m args below meth c A dC dI dA F H locs ls hP hS hl
  refine va_zast F.1 F.2.1 F.2.2.2.2.2.2.2.1 hP (F.2.2.2.2.2.2.2.2.1 I L) hS k 1 (fd_get S α dA I L hS0) rfl hin hdg (fun H1 locs1 hP1 _ hS1 => ?_)
  rw [show vp_nar .boolean x = x by rcases hx with h | h <;> subst h <;> rfl] at hP1
  rw [fd_wsA hS0] at hP1
  exact K p l e s m args below meth c A dC dI dA F H1 locs1 ls hP1 hS1 hl
theorem r_bast {k n : Nat} {i x : Int32} (hS0 : S[k]? = some (.inr (.inl (2, n)))) (hx : x.toInt8.toInt32 = x) (hdg : decode y.1 pc = .ok (.bastore, 1)) (hin : vp_in i n) (K : Rn S α y (pc + 1) lv st (fd_up I k i.toNatClampNeg x) L Q) : Rn S α y pc lv (.int x :: .int i :: .ref (α k) :: st) I L Q := by
  intro p l e s m args below meth c A dC dI dA F H locs ls hP hS hl
  refine va_bast F.1 F.2.1 F.2.2.2.2.2.2.2.1 hP (F.2.2.2.2.2.2.2.2.1 I L) hS k 2 (fd_get S α dA I L hS0) rfl hin hdg (fun H1 locs1 hP1 _ hS1 => ?_)
  rw [vp_nar_byte, hx] at hP1
  rw [fd_wsA hS0] at hP1
  exact K p l e s m args below meth c A dC dI dA F H1 locs1 ls hP1 hS1 hl
theorem r_aald {k t n : Nat} {C : String} {rs : List Nat} {i : Int32} (hS0 : S[k]? = some (.inr (.inr (t, rs)))) (ht : ∀ dA : Nat → ClassId, (fd_tys dA)[t]? = some (dA t, .object C)) (hdg : decode y.1 pc = .ok (.aaload, 1)) (hin : vp_in i rs.length) (hr : rs[i.toNatClampNeg]? = some n) (K : Rn S α y (pc + 1) lv (.ref (α n) :: st) I L Q) : Rn S α y pc lv (.int i :: .ref (α k) :: st) I L Q := by
  intro p l e s m args below meth c A dC dI dA F H locs ls hP hS hl
  refine va_aldq F.1 F.2.1 F.2.2.2.2.2.2.2.1 hP k t (fd_get S α dA I L hS0) (ht dA) hin hdg ?_
  rw [hr]
  exact (K p l e s m args below meth c A dC dI dA F H locs ls hP hS hl)
theorem r_aaldA {k n : Nat} {rs : List Nat} {i : Int32} (hS0 : S[k]? = some (.inr (.inr (5, rs)))) (hdg : decode y.1 pc = .ok (.aaload, 1)) (hin : vp_in i rs.length) (hr : rs[i.toNatClampNeg]? = some n) (K : Rn S α y (pc + 1) lv (.ref (α n) :: st) I L Q) : Rn S α y pc lv (.int i :: .ref (α k) :: st) I L Q := by
  intro p l e s m args below meth c A dC dI dA F H locs ls hP hS hl
  have hlt : i.toNatClampNeg < rs.length := Nat.not_le.mp fun q => hin (Or.inr q)
  have hg := fd_get S α dA I L hS0
  have ht : (fd_tys dA)[5]? = some (dA 5, .array .int) := rfl
  refine W.aald (v := va_rf ((rs[i.toNatClampNeg]?).map α)) (ty := .array .int) F.1 F.2.1 (hP k _ hg) ((F.2.2.2.2.2.2.2.1.2 5 _ ht).1 rs.length (fun j => va_rf ((rs[j]?).map α))) rfl (fun q => by cases q) (by show ¬ (i < 0 ∨ (arrV _ _ _).slots.size ≤ _); rw [arrV_size]; exact hin) (by show (arrV _ _ _).slots[_]? = _; rw [arrV_read _ _ hlt]) rfl rfl hdg ?_
  rw [hr]
  exact (K p l e s m args below meth c A dC dI dA F H locs ls hP hS hl)
theorem r_alen {k t n : Nat} {ty : FieldType} (hS0 : S[k]? = some (.inr (.inl (t, n)))) (ht : ∀ dA : Nat → ClassId, (fd_tys dA)[t]? = some (dA t, ty)) (hdg : decode y.1 pc = .ok (.arraylength, 1)) (K : Rn S α y (pc + 1) lv (.int (nI n) :: st) I L Q) : Rn S α y pc lv (.ref (α k) :: st) I L Q := by
  intro p l e s m args below meth c A dC dI dA F H locs ls hP hS hl
  exact va_alen F.1 F.2.1 F.2.2.2.2.2.2.2.1 hP k t (fd_get S α dA I L hS0) (ht dA) rfl hdg (K p l e s m args below meth c A dC dI dA F H locs ls hP hS hl)
theorem r_orders {own : String} {idx : Nat} (ho : y.2.2.1 = own) (hw : Cond.fieldLinkNest own idx RX10 "ORDERS_OF" "[I" RX10 ∈ fd_nest) (hdg : decode y.1 pc = .ok (.getstatic idx, 3)) (K : Rn S α y (pc + 3) lv (.ref (α 1000) :: st) I L Q) : Rn S α y pc lv (st) I L Q := by
  intro p l e s m args below meth c A dC dI dA F H locs ls hP hS hl
  subst ho
  exact va_getsN F.1 F.2.1 F.2.2.2.2.2.2.2.2.2.1.1 hS F.2.2.2.1 ((F.2.2.2.2.2.2.2.2.2.1.2.2.2.2.2.2 _ hw).use rfl) (fun x hx => hx) hdg (K p l e s m args below meth c A dC dI dA F H locs ls hP hS hl)
theorem r_oald {i : Int32} (hdg : decode y.1 pc = .ok (.iaload, 1)) (hin : vp_in i 8) (K : Rn S α y (pc + 1) lv (.int (fd_facts.getD i.toNatClampNeg 0) :: st) I L Q) : Rn S α y pc lv (.int i :: .ref (α 1000) :: st) I L Q := by
  intro p l e s m args below meth c A dC dI dA F H locs ls hP hS hl
  exact va_ti F.1 F.2.1 F.2.2.2.2.2.2.2.2.2.1.2.1 hS hin rfl hdg (K p l e s m args below meth c A dC dI dA F H locs ls hP hS hl)
theorem r_iret {v : Int32} (hr : y.2.2.2.1 = some .int) (hdg : decode y.1 pc = .ok (.ireturn, 1)) (hq : Q (some (.int v)) I L) : Rn S α y pc lv ([.int v]) I L Q := by
  intro p l e s m args below meth c A dC dI dA F H locs ls hP hS hl
  have hlocks : meth.locks = false := F.2.2.2.2.2.1
  exact W.iret F.1 F.2.1 (F.2.2.2.2.1.trans hr) (fun t ht hW => ⟨⟨_, I, L, rfl, hq, by rw [ht]; exact hP⟩, hS.F ht⟩) hS.2.2 hdg
theorem r_zret {v : Int32} (hr : y.2.2.2.1 = some .boolean) (hv : v = 0 ∨ v = 1) (hdg : decode y.1 pc = .ok (.ireturn, 1)) (hq : Q (some (.int v)) I L) : Rn S α y pc lv ([.int v]) I L Q := by
  intro p l e s m args below meth c A dC dI dA F H locs ls hP hS hl
  have hlocks : meth.locks = false := F.2.2.2.2.2.1
  exact W.zret F.1 F.2.1 (F.2.2.2.2.1.trans hr) (by rcases hv with h | h <;> subst h <;> rfl) (fun t ht hW => ⟨⟨_, I, L, rfl, hq, by rw [ht]; exact hP⟩, hS.F ht⟩) hS.2.2 hdg
theorem r_lret {v : Int64} (hr : y.2.2.2.1 = some .long) (hdg : decode y.1 pc = .ok (.lreturn, 1)) (hq : Q (some (.long v)) I L) : Rn S α y pc lv ([.long v]) I L Q := by
  intro p l e s m args below meth c A dC dI dA F H locs ls hP hS hl
  have hlocks : meth.locks = false := F.2.2.2.2.2.1
  exact W.lret F.1 F.2.1 (F.2.2.2.2.1.trans hr) (fun t ht hW => ⟨⟨_, I, L, rfl, hq, by rw [ht]; exact hP⟩, hS.F ht⟩) hS.2.2 hdg
theorem r_vret (hr : y.2.2.2.1 = none) (hdg : decode y.1 pc = .ok (.return_, 1)) (hq : Q (none) I L) : Rn S α y pc lv ([]) I L Q := by
  intro p l e s m args below meth c A dC dI dA F H locs ls hP hS hl
  have hlocks : meth.locks = false := F.2.2.2.2.2.1
  exact W.vret F.1 F.2.1 (F.2.2.2.2.1.trans hr) (fun t ht hW => ⟨⟨_, I, L, rfl, hq, by rw [ht]; exact hP⟩, hS.F ht⟩) hS.2.2 hdg
theorem r_aret {a : Nat} {C : String} (hr : y.2.2.2.1 = some (.object C)) (hdg : decode y.1 pc = .ok (.areturn, 1)) (hq : Q (some (.ref a)) I L) : Rn S α y pc lv ([.ref a]) I L Q := by
  intro p l e s m args below meth c A dC dI dA F H locs ls hP hS hl
  have hlocks : meth.locks = false := F.2.2.2.2.2.1
  exact W.aret F.1 F.2.1 (F.2.2.2.2.1.trans hr) (Or.inl ⟨C, rfl⟩) (Or.inr ⟨a, rfl⟩) (fun t ht hW => ⟨⟨_, I, L, rfl, hq, by rw [ht]; exact hP⟩, hS.F ht⟩) hS.2.2 hdg
theorem r_copy {k k2 t n n2 idx : Nat} {ty : FieldType} {sp dp len : Int32} (hS0 : S[k]? = some (.inr (.inl (t, n)))) (hS2 : S[k2]? = some (.inr (.inl (t, n2)))) (ht : ∀ dA : Nat → ClassId, (fd_tys dA)[t]? = some (dA t, ty)) (hprim : refKind ty = false)
    (hl1 : Cond.methodLink y.2.2.1 idx arraycopyName ∈ fd_tb) (hl2 : Cond.native arraycopyName ∈ fd_tb) (hl3 : Cond.static arraycopyName ∈ fd_tb) (hl4 : Cond.initialized "java/lang/System" ∈ fd_tb)
    (h1 : ¬ sp < 0) (h2 : ¬ dp < 0) (h3 : ¬ len < 0) (h4 : sp.toNatClampNeg + len.toNatClampNeg ≤ n) (h5 : dp.toNatClampNeg + len.toNatClampNeg ≤ n2) (hfit : ∀ i, i < len.toNatClampNeg → fits ty (.int (I k (sp.toNatClampNeg + i))) = true)
    (hfr : 1 ≤ y.2.2.2.2) (hst : (st.map fun v => v.category).sum + (nativeFrameWords "java/lang/System" "arraycopy" 5 + 11) ≤ 36 * y.2.2.2.2) (hdg : decode y.1 pc = .ok (.invokestatic idx, 3))
    (K : Rn S α y (pc + 3) lv st (fd_row I k2 (va_cpy (I k) (I k2) sp.toNatClampNeg dp.toNatClampNeg len.toNatClampNeg)) L Q) : Rn S α y pc lv (.int len :: .int dp :: .ref (α k2) :: .int sp :: .ref (α k) :: st) I L Q := by
  intro p l e s m args below meth c A dC dI dA F H locs ls hP hS hl
  refine va_copyi F.1 F.2.1 (F.2.2.1.trans hl.1.symm) F.2.2.2.1 (F.2.2.2.2.2.2.1 _ hl1) (F.2.2.2.2.2.2.1 _ hl2) (F.2.2.2.2.2.2.1 _ hl3) (F.2.2.2.2.2.2.1 _ hl4) F.2.2.2.2.2.2.2.1 hP (F.2.2.2.2.2.2.2.2.1 I L) hS k k2 t t (fd_get S α dA I L hS0) (fd_get S α dA I L hS2) (ht dA) (ht dA) hprim h1 h2 h3 h4 h5 hfit hfr hst hdg (fun H1 locs1 hP1 _ hS1 => ?_)
  rw [fd_wsR hS2] at hP1
  exact K p l e s m args below meth c A dC dI dA F H1 locs1 ls hP1 hS1 hl
end FDR2
section FDC
variable {S : List fdE} {α : Nat → Nat} {y mz : fdM} {z x : MethodName} {pc idx n : Nat} {lv lv' : List (Nat × Value)} {st av As : List Value} {I I' : fdI} {L L' : fdL} {Q Qz : Option Value → fdI → fdL → Prop}
abbrev fd_Pc (S : List fdE) (α : Nat → Nat) (dC : Nat → ClassId) (dI : Nat → Nat → Nat) (dA : Nat → ClassId) (av : List Value) (I : fdI) (L : fdL) (sz : Nat) : Array Value → State → Prop := va_Pc av (fun U => U.heap.size = sz ∧ va_P (dC, dI) vwCl (fd_ws S α dA I L) U.heap ∧ va_K (dC, dI) vwCl (fd_tys dA) U ∧ va_D (fun _ => True) (fd_ws S α dA I L) ∧ fd_PF α (va_A (fd_ws S α dA I L) sz) U U.heap)
theorem fd_blind {dC : Nat → ClassId} {dI : Nat → Nat → Nat} {dA : Nat → ClassId} {sz : Nat} : FrameBlind (fd_Pc S α dC dI dA av I L sz) := by
  intro a U g mk q
  obtain ⟨h1, h2, h3, h4, h5, h6⟩ := q
  exact ⟨h1, h2, h3, va_K.moved (u := U) (U := U.calling g mk a) (Vm.Alike.refl U.vm) h4, h5, h6.vm (U := U.calling g mk a) rfl⟩
theorem fd_pre {p : Program} {s : State} {m : MethodId} {args : Array Value} {meth : Method} {c : Code} {A : Nat → Prop} {dC : Nat → ClassId} {dI : Nat → Nat → Nat} {dA : Nat → ClassId} (F : fd_Fix S α y p s m args meth c A dC dI dA) {H : Heap} {locs : List Loc} (hP : va_P (dC, dI) vwCl (fd_ws S α dA I L) H) (hS : va_S A s.heap H locs) : ∀ U : State, U.heap = H → s.WarmedH U.vm → fd_Pc S α dC dI dA av I L H.size av.toArray U := by
  intro U hU hW
  refine ⟨rfl, by rw [hU], by rw [hU]; exact hP, va_K.moved hW.alike F.2.2.2.2.2.2.2.1, (F.2.2.2.2.2.2.2.2.1 I L).weaken (fun _ _ _ _ => trivial), ?_⟩
  rw [hU]
  refine F.2.2.2.2.2.2.2.2.2.1.at hW hS.2.1 (fun q hq => ?_)
  rcases hq with ⟨k, e, hk⟩ | hq
  · exact (F.2.2.2.2.2.2.2.2.1 I L).2 k _ hk
  · exact F.2.2.2.2.2.2.2.2.2.2 q (Nat.le_trans hS.1 hq)
theorem fd_cont {p : Program} {l : Launch} {e : Env} {R : Room} {s : State} {m : MethodId} {args : Array Value} {below : List Frame} {meth : Method} {c : Code} {A : Nat → Prop} {dC : Nat → ClassId} {dI : Nat → Nat → Nat} {dA : Nat → ClassId} {Qm : State → Prop} (F : fd_Fix S α y p s m args meth c A dC dI dA) {H : Heap} {locs : List Loc} {ls : Array Slot} {st0 : List Value} {a : Array Value} (hS : va_S A s.heap H locs)
    (hr : va_Run p l e R s m args below meth c H locs 0 0 0 0 (F0 m pc ls st0) st (fd_Q S α dC dI dA (va_A (fd_ws S α dA I L) H.size) Qz a) (va_A (fd_ws S α dA I L) H.size))
    (K : ∀ (rv : Option Value) (I' : fdI) (L' : fdL), Qz rv I' L' → ∀ (H1 : Heap) (locs1 : List Loc), va_P (dC, dI) vwCl (fd_ws S α dA I' L') H1 → va_S A s.heap H1 locs1 → W p l e R s m args below meth c H1 locs1 0 0 Qm (F0 m (pc + 3) ls (rv.toList ++ st))) : W p l e R s m args below meth c H locs 0 0 Qm (F0 m pc ls st0) := by
  have hA : ∀ q, va_A (fd_ws S α dA I L) H.size q → A q := by
    intro q hq
    rcases hq with ⟨k, e, hk⟩ | hq
    · exact (F.2.2.2.2.2.2.2.2.1 I L).2 k _ hk
    · exact F.2.2.2.2.2.2.2.2.2.2 q (Nat.le_trans hS.1 hq)
  intro T hT X
  obtain ⟨v, st₀, t, T', L1, h0, X', hL, e1, e2, ⟨⟨rv, I', L', hv, hq, hP1⟩, hz, hk⟩, hst⟩ := hr T hT X
  cases hv
  rw [h0] at hz hk
  obtain ⟨t2, a1, b1⟩ := K v I' L' hq T'.heap (locs ++ L1) (by rw [e1]; exact hP1)
    ⟨Nat.le_trans hS.1 (by rw [e1]; exact hz), fun q h1 h2 => by rw [e1, hk q (Nat.lt_of_lt_of_le h1 hS.1) (fun z => h2 (hA q z))]; exact hS.2.1 q h1 h2, fun q hq => by
      rcases List.mem_append.mp hq with h | h
      · exact hS.2.2 q h
      · exact hA _ (hL q h)⟩ T' rfl X'
  exact ⟨t2, hst t2 a1, b1⟩
/-- a link to a method of its own receiver's class -/
def fd_lkV (own : String) (idx : Nat) (z : MethodName) (mz : fdM) (n : Nat) : Prop := Cond.methodLink own idx z ∈ fd_tb ∧ Cond.instanceMethod z ∈ fd_tb ∧ Cond.selects z.cls z z ∈ fd_tb ∧ Cond.initialized z.cls ∈ fd_tb ∧ Cond.code z mz.1 mz.2.1 mz.2.2.2.1 ∈ fd_tb ∧ z.cls ≠ "java/lang/invoke/MethodHandle" ∧ z.cls ≠ "java/lang/invoke/VarHandle" ∧ (parseMethodDescriptor z.desc).map (fun d => d.parameters.length) = some n
def fd_lkS (own : String) (idx : Nat) (z : MethodName) (mz : fdM) (n : Nat) : Prop := Cond.methodLink own idx z ∈ fd_tb ∧ Cond.static z ∈ fd_tb ∧ Cond.initialized z.cls ∈ fd_tb ∧ Cond.code z mz.1 mz.2.1 mz.2.2.2.1 ∈ fd_tb ∧ z.cls ≠ "java/lang/invoke/MethodHandle" ∧ z.cls ≠ "java/lang/invoke/VarHandle" ∧ (parseMethodDescriptor z.desc).map (fun d => d.parameters.length) = some n
theorem fd_gi {ws : List Cond} (h : ∀ w ∈ ws, w ∈ fd_tb) : GoodIn fd_tb ws := fun w hw => ⟨h w hw, good_of_word (fd_good (h w hw))⟩
theorem fd_gc {w : Cond} (h : w ∈ fd_tb) : ∀ v ∈ w :: fd_tb, v ∈ fd_tb := fun v hv => (List.mem_cons.mp hv).elim (fun e => e ▸ h) id
theorem fd_room {dz dy maxL : Nat} (h : dz + 1 ≤ dy) (hm : maxL ≤ 17) : (fd_rm dz).frames + 1 ≤ (fd_rm dy).frames ∧ 8 + (maxL + 11) + (fd_rm dz).locals ≤ (fd_rm dy).locals := by
  refine ⟨h, ?_⟩
  show 8 + (maxL + 11) + 36 * dz ≤ 36 * dy
  omega
theorem r_callV {k ci : Nat} {ks : List Nat} (hc : Con S α z mz (.ref (α k) :: As) I L Qz) (hlk : fd_lkV y.2.2.1 idx z mz n) (hS0 : S[k]? = some (.inl (ci, ks))) (hcl : (vwCl[ci]?).map (fun r => r.1) = some z.cls) (hd : mz.2.2.2.2 + 1 ≤ y.2.2.2.2) (hm : mz.2.1 ≤ 17) (hn : As.length = n) (hcat : (st.map fun v => v.category).sum ≤ 8) (hdg : decode y.1 pc = .ok (.invokevirtual idx, 3))
    (K : ∀ (rv : Option Value) (I' : fdI) (L' : fdL), Qz rv I' L' → Rn S α y (pc + 3) lv (rv.toList ++ st) I' L' Q) : Rn S α y pc lv (As.reverse ++ .ref (α k) :: st) I L Q := by
  intro p l e s m args below meth c A dC dI dA F H locs ls hP hS hl
  obtain ⟨k1, k2, k3, k4, k5, k6, k7, k8⟩ := hlk
  have hg := fd_get S α dA I L hS0
  have hrc : ∃ q : vw_C, vwCl[ci]? = some q ∧ q.1 = z.cls := by
    cases hq : vwCl[ci]? with
    | none => rw [hq] at hcl; cases hcl
    | some q => rw [hq] at hcl; exact ⟨q, rfl, Option.some.inj hcl⟩
  obtain ⟨q, hq, hqc⟩ := hrc
  have hrv := va_recv F.2.2.2.2.2.2.2.1 hP hq hg
  rw [hqc] at hrv
  refine fd_cont F hS (va_runV (As := As) (C := z.cls) (own := y.2.2.1) (n := n) ⟨F.1, F.2.1, F.2.2.1, F.2.2.2.1, F.2.2.2.2.2.2.1⟩ (hc l dC dI dA H.size) (cwV n F.2.2.2.2.2.2.1 (fd_gi ?_) rfl rfl rfl ⟨rfl, k6, k7, k8⟩ (fd_room hd hm)) ⟨fd_blind, hrv, fd_pre F hP hS⟩ rfl hn hl.1 rfl (lv_room hcat) hdg ⟨Nat.zero_le _, Nat.zero_le _⟩) (fun rv I' L' hq H1 locs1 hP1 hS1 => K rv I' L' hq p l e s m args below meth c A dC dI dA F H1 locs1 ls hP1 hS1 hl)
  intro w hw
  simp only [wsV, List.cons_append, List.nil_append, List.mem_cons] at hw
  rcases hw with rfl | rfl | rfl | rfl | rfl | hw
  · exact k1
  · exact k2
  · exact k3
  · exact k4
  · exact k5
  · exact hw
theorem r_callS (hc : Con S α z mz As I L Qz) (hlk : fd_lkS y.2.2.1 idx z mz n) (hd : mz.2.2.2.2 + 1 ≤ y.2.2.2.2) (hm : mz.2.1 ≤ 17) (hn : As.length = n) (hcat : (st.map fun v => v.category).sum ≤ 8) (hdg : decode y.1 pc = .ok (.invokestatic idx, 3))
    (K : ∀ (rv : Option Value) (I' : fdI) (L' : fdL), Qz rv I' L' → Rn S α y (pc + 3) lv (rv.toList ++ st) I' L' Q) : Rn S α y pc lv (As.reverse ++ st) I L Q := by
  intro p l e s m args below meth c A dC dI dA F H locs ls hP hS hl
  obtain ⟨k1, k2, k4, k5, k6, k7, k8⟩ := hlk
  refine fd_cont F hS (va_runS (As := As) (own := y.2.2.1) (n := n) ⟨F.1, F.2.1, F.2.2.1, F.2.2.2.1, F.2.2.2.2.2.2.1⟩ (hc l dC dI dA H.size) (va_cwS n F.2.2.2.2.2.2.1 (fd_gi ?_) rfl rfl rfl ⟨k6, k7, k8⟩ (fd_room hd hm)) ⟨fd_blind, fd_pre F hP hS⟩ rfl hn hl.1 rfl (lv_room hcat) hdg ⟨Nat.zero_le _, Nat.zero_le _⟩) (fun rv I' L' hq H1 locs1 hP1 hS1 => K rv I' L' hq p l e s m args below meth c A dC dI dA F H1 locs1 ls hP1 hS1 hl)
  intro w hw
  simp only [va_wsS, List.cons_append, List.nil_append, List.mem_cons] at hw
  rcases hw with rfl | rfl | rfl | rfl | hw
  · exact k1
  · exact k2
  · exact k4
  · exact k5
  · exact hw
/-- a private static method of a nest mate -/
theorem r_callN {own : String} (ho : y.2.2.1 = own) (hc : Con S α z mz As I L Qz) (h1 : Cond.methodLinkNest own idx z RX10 ∈ fd_nest) (k2 : Cond.static z ∈ fd_tb) (k4 : Cond.initialized z.cls ∈ fd_tb) (k5 : Cond.code z mz.1 mz.2.1 mz.2.2.2.1 ∈ fd_tb) (k6 : z.cls ≠ "java/lang/invoke/MethodHandle" ∧ z.cls ≠ "java/lang/invoke/VarHandle" ∧ (parseMethodDescriptor z.desc).map (fun d => d.parameters.length) = some n) (hd : mz.2.2.2.2 + 1 ≤ y.2.2.2.2) (hm : mz.2.1 ≤ 17) (hn : As.length = n) (hcat : (st.map fun v => v.category).sum ≤ 8) (hdg : decode y.1 pc = .ok (.invokestatic idx, 3))
    (K : ∀ (rv : Option Value) (I' : fdI) (L' : fdL), Qz rv I' L' → Rn S α y (pc + 3) lv (rv.toList ++ st) I' L' Q) : Rn S α y pc lv (As.reverse ++ st) I L Q := by
  subst ho
  intro p l e s m args below meth c A dC dI dA F H locs ls hP hS hl
  refine fd_cont F hS (va_runSN (As := As) (own := y.2.2.1) (n := n) ⟨F.1, F.2.1, F.2.2.1, F.2.2.2.1, F.2.2.2.2.2.2.1⟩ (hc l dC dI dA H.size) ⟨va_cnB n F.2.2.2.2.2.2.1 (fd_gi (fd_gc k5)) rfl rfl rfl (F.2.2.2.2.2.2.2.2.2.1.2.2.2.2.2.2 _ h1) (F.2.2.2.2.2.2.1 _ k4) k6 (fd_room hd hm), F.2.2.2.2.2.2.1 _ k2, trivial⟩ ⟨fd_blind, fd_pre F hP hS⟩ rfl hn hl.1 rfl (lv_room hcat) hdg ⟨Nat.zero_le _, Nat.zero_le _⟩) (fun rv I' L' hq H1 locs1 hP1 hS1 => K rv I' L' hq p l e s m args below meth c A dC dI dA F H1 locs1 ls hP1 hS1 hl)
/-- a method that is found from the receiver's class C: the link names x, owner's; y's code is run -/
def fd_lkO (own : String) (idx : Nat) (C : String) (x z : MethodName) (mz : fdM) (n : Nat) : Prop := Cond.methodLink own idx x ∈ fd_tb ∧ Cond.sameMethod x.cls x.cls x.name x.desc ∈ fd_tb ∧ Cond.instanceMethod x ∈ fd_tb ∧ Cond.selects C x z ∈ fd_tb ∧ Cond.instanceMethod z ∈ fd_tb ∧ Cond.initialized z.cls ∈ fd_tb ∧ Cond.code z mz.1 mz.2.1 mz.2.2.2.1 ∈ fd_tb ∧ (∃ (b0 : ByteArray) (m0 : Nat) (r0 : Option FieldType), Cond.code x b0 m0 r0 ∈ fd_tb) ∧ x.cls ≠ "java/lang/invoke/MethodHandle" ∧ x.cls ≠ "java/lang/invoke/VarHandle" ∧ (parseMethodDescriptor x.desc).map (fun d => d.parameters.length) = some n
theorem r_callO {C : String} {k ci : Nat} {ks : List Nat} (hc : Con S α z mz (.ref (α k) :: As) I L Qz) (hlk : fd_lkO y.2.2.1 idx C x z mz n) (hS0 : S[k]? = some (.inl (ci, ks))) (hcl : (vwCl[ci]?).map (fun r => r.1) = some C) (hd : mz.2.2.2.2 + 1 ≤ y.2.2.2.2) (hm : mz.2.1 ≤ 17) (hn : As.length = n) (hcat : (st.map fun v => v.category).sum ≤ 8) (hdg : decode y.1 pc = .ok (.invokevirtual idx, 3))
    (K : ∀ (rv : Option Value) (I' : fdI) (L' : fdL), Qz rv I' L' → Rn S α y (pc + 3) lv (rv.toList ++ st) I' L' Q) : Rn S α y pc lv (As.reverse ++ .ref (α k) :: st) I L Q := by
  intro p l e s m args below meth c A dC dI dA F H locs ls hP hS hl
  obtain ⟨k1, k2, k3, k4, k5, k6, k7, ⟨b0, m0, r0, k8⟩, k9, k10, k11⟩ := hlk
  have hg := fd_get S α dA I L hS0
  have hrc : ∃ q : vw_C, vwCl[ci]? = some q ∧ q.1 = C := by
    cases hq : vwCl[ci]? with
    | none => rw [hq] at hcl; cases hcl
    | some q => rw [hq] at hcl; exact ⟨q, rfl, Option.some.inj hcl⟩
  obtain ⟨q, hq, hqc⟩ := hrc
  have hrv := va_recv F.2.2.2.2.2.2.2.1 hP hq hg
  rw [hqc] at hrv
  refine fd_cont F hS (va_runU (As := As) (C := C) (own := y.2.2.1) (n := n) ⟨F.1, F.2.1, F.2.2.1, F.2.2.2.1, F.2.2.2.2.2.2.1⟩ (hc l dC dI dA H.size) (va_cwO (owner := x.cls) (x := x) n F.2.2.2.2.2.2.1 (fd_gi ?_) rfl rfl rfl (b0 := b0) (m0 := m0) (r0 := r0) k8 ⟨k9, k10, k11⟩ (fd_room hd hm)) ⟨fd_blind, hrv, fd_pre F hP hS⟩ rfl hn hl.1 rfl (lv_room hcat) hdg ⟨Nat.zero_le _, Nat.zero_le _⟩) (fun rv I' L' hq H1 locs1 hP1 hS1 => K rv I' L' hq p l e s m args below meth c A dC dI dA F H1 locs1 ls hP1 hS1 hl)
  intro w hw
  simp only [va_wsO, List.cons_append, List.nil_append, List.mem_cons] at hw
  rcases hw with rfl | rfl | rfl | rfl | rfl | rfl | rfl | hw
  · exact k1
  · exact k2
  · exact k3
  · exact k4
  · exact k5
  · exact k6
  · exact k7
  · exact hw
end FDC