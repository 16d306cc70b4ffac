/-! the class: two, settle -/
theorem btI_shr {x : Int32} {j : Nat} (hj : j < 32) : btI (x >>> (nI j &&& 31)) 0 = btI x j := by
  show (x.toBitVec.sshiftRight' ((nI j &&& 31).toBitVec.smod 32)).getLsbD 0 = _
  rw [BitVec.getLsbD_sshiftRight', sh_k j hj]
  rw [if_pos (by omega), Nat.add_zero]
  rfl
theorem btI_0 {i : Nat} : btI 0 i = false := BitVec.getLsbD_zero
theorem btI_and1 {y : Int32} : y &&& 1 = 0 ↔ btI y 0 = false := by
  have h1 : ∀ i, i < 32 → btI 1 i = decide (i = 0) := by decide
  constructor
  · intro h
    have := congrArg (fun z => btI z 0) h
    have : btI (y &&& 1) 0 = btI 0 0 := this
    rw [btI_and, h1 0 (by decide), btI_0] at this
    simpa using this
  · intro h
    refine btI_ext fun i hi => ?_
    rw [btI_and, h1 i hi, btI_0]
    by_cases q : i = 0
    · rw [q, h]; rfl
    · rw [decide_eq_false q, Bool.and_false]
theorem btI_bit {x : Int32} {j : Nat} (hj : j < 31) : x &&& (1 <<< (nI j &&& 31)) = 0 ↔ btI x j = false := by
  constructor
  · intro h
    have : btI (x &&& (1 <<< (nI j &&& 31))) j = btI 0 j := by rw [h]
    rw [btI_and, btI_sh hj (by omega), btI_0, decide_eq_true rfl, Bool.and_true] at this
    exact this
  · intro h
    refine btI_ext fun i hi => ?_
    rw [btI_and, btI_sh hj hi, btI_0]
    by_cases q : j = i
    · rw [← q, h]; rfl
    · rw [decide_eq_false q, Bool.and_false]
theorem bit_two {x f : Int32} (hf : dayP f 6) : (x >>> (f &&& 31)) &&& 1 = 0 ↔ x &&& (1 <<< (f &&& 31)) = 0 := by
  obtain ⟨j, hj, rfl⟩ := dayP_nI hf
  rw [btI_and1, btI_shr (by omega), btI_bit (by omega)]
def skP (s : pS) (I : fdI) (L : fdL) (I' : fdI) (L' : fdL) : Prop := L' = L ∧ (∀ a, a < 57 ∨ a = 76 → I' a = I a) ∧ ∀ d, d < s.2.1 → I' 74 d = twV s.1 s.2.1 s.2.2.1 (prm s.2.1 s.2.2.2.2.2.1) (prm s.2.1 s.2.2.2.2.2.2.1) d
theorem c_X10_shareKnown (s : pS) (α : Nat → Nat) (I : fdI) (L : fdL) (hs : stOk s) (hx : xSt 8 s I) : Con fd_SX α yX10_shareKnown mX10_shareKnown [.ref (α 0)] I L (fd_vp (skP s I L)) := by
  refine Con.of (by decide) rfl (Nat.le_of_ble_eq_true rfl) ?_
  have hn7 := hs.n7
  have loop : ∀ J : fdI, xSt 8 s J → (∀ a, a < 57 ∨ a = 76 → J a = I a) → (∀ d, d < s.2.1 → J 67 d = knV s.1 s.2.1 s.2.2.1 (prm s.2.1 s.2.2.2.2.2.2.1) d ∧ J 74 d = knV s.1 s.2.1 s.2.2.1 (prm s.2.1 s.2.2.2.2.2.1) d) → ∀ k, k ≤ s.2.1 → ∀ I1 : fdI, (∀ a, a ≠ 74 → I1 a = J a) → (∀ d, d < s.2.1 → I1 74 d = if d < k then twV s.1 s.2.1 s.2.2.1 (prm s.2.1 s.2.2.2.2.2.1) (prm s.2.1 s.2.2.2.2.2.2.1) d else knV s.1 s.2.1 s.2.2.1 (prm s.2.1 s.2.2.2.2.2.1) d) → Rn fd_SX α mX10_shareKnown 42 [(1, .int (nI k)), (0, .ref (α 0))] [] I1 L (fd_vp (skP s I L)) := by
    intro J xJ fJ kJ
    refine fd_down (fun k hk ih => ?_)
    intro I1 g1 g2
    have hd : I1 8 0 = nI s.2.1 := by rw [g1 8 (by decide)]; exact xJ.n
    by_cases hx2 : k = s.2.1
    · refine r_iload_n dX10_shareKnown_42 rfl ?_
      refine r_aload_n dX10_shareKnown_43 rfl ?_
      refine r_getR rfl rfl fl_10_18 dX10_shareKnown_44 ?_
      refine r_getV rfl rfl fl_10_170 dX10_shareKnown_47 hd ?_
      refine r_icmp_ge 77 dX10_shareKnown_50 (by decide) (fun h50 => ?_) (fun h50 => absurd h50 (not_not_intro (by rw [hx2]; exact Int32.le_refl _)))
      refine r_vret rfl dX10_shareKnown_77 ?_
      refine ⟨rfl, rfl, fun a ha => (g1 a (by omega)).trans (fJ a ha), fun d hd2 => ?_⟩
      rw [g2 d hd2, if_pos (by omega)]
    · have hk7 : k < s.2.1 := by omega
      have e1 : I1 74 k = knV s.1 s.2.1 s.2.2.1 (prm s.2.1 s.2.2.2.2.2.1) k := by rw [g2 k hk7, if_neg (by omega)]
      have e2 : I1 67 k = knV s.1 s.2.1 s.2.2.1 (prm s.2.1 s.2.2.2.2.2.2.1) k := by rw [g1 67 (by decide)]; exact (kJ k hk7).1
      refine r_iload_n dX10_shareKnown_42 rfl ?_
      refine r_aload_n dX10_shareKnown_43 rfl ?_
      refine r_getR rfl rfl fl_10_18 dX10_shareKnown_44 ?_
      refine r_getV rfl rfl fl_10_170 dX10_shareKnown_47 hd ?_
      refine r_icmp_ge 77 dX10_shareKnown_50 (by decide) (fun h50 => absurd h50 (fun q => absurd ((nI_leI (by omega) (by omega)).mp q) (by omega))) (fun h50 => ?_)
      refine r_aload_n dX10_shareKnown_53 rfl ?_
      refine r_getR rfl rfl fl_10_54 dX10_shareKnown_54 ?_
      refine r_iload_n dX10_shareKnown_57 rfl ?_
      refine r_dup2 dX10_shareKnown_58 rfl rfl ?_
      refine r_ialdN rfl dX10_shareKnown_59 (by omega) (by omega) e1 ?_
      refine r_aload_n dX10_shareKnown_60 rfl ?_
      refine r_getR rfl rfl fl_10_43 dX10_shareKnown_61 ?_
      refine r_getR rfl rfl fl_10_158 dX10_shareKnown_64 ?_
      refine r_iload_n dX10_shareKnown_67 rfl ?_
      refine r_ialdN rfl dX10_shareKnown_68 (by omega) (by omega) e2 ?_
      refine r_iand dX10_shareKnown_69 ?_
      refine r_iastN rfl dX10_shareKnown_70 (by omega) (by omega) ?_
      refine r_iinc (v := _ + 1) (lv' := [(1, _), (0, _)]) dX10_shareKnown_71 rfl rfl (Nat.le_of_ble_eq_true rfl) rfl ?_
      refine r_goto (tgt := 42) dX10_shareKnown_74 (by decide) ?_
      rw [nI_1]
      refine r_keep [1, 0] rfl (ih hk7 _ (fun a ha => (fd_up_cell ha).trans (g1 a ha)) (fun d hd2 => ?_))
      rw [fd_up_at]
      by_cases q : d = k
      · rw [if_pos q, if_pos (by omega), q]
        rfl
      · rw [if_neg q, g2 d hd2]
        by_cases q2 : d < k
        · rw [if_pos q2, if_pos (by omega)]
        · rw [if_neg q2, if_neg (by omega)]
  refine r_aload_n dX10_shareKnown_0 rfl ?_
  refine r_aload_n dX10_shareKnown_1 rfl ?_
  refine r_getR rfl rfl fl_10_18 dX10_shareKnown_2 ?_
  refine r_getV rfl rfl fl_10_148 dX10_shareKnown_5 hx.num.2.2.2.1 ?_
  refine r_cVq (As := [_]) (c_X10_follow s α _ _ _ hs hx hs.num.2.2.2.1) lk_10_151 rfl rfl (by decide) (by decide) rfl rfl (Nat.le_of_ble_eq_true rfl) dX10_shareKnown_8 (fun I8 L8 q8 => ?_)
  obtain ⟨rfl, f8, c8, l8⟩ := q8
  have x8 := f8.st hx (by decide)
  refine r_aload_n dX10_shareKnown_11 rfl ?_
  refine r_getR rfl rfl fl_10_43 dX10_shareKnown_12 ?_
  refine r_getR rfl rfl fl_10_158 dX10_shareKnown_15 ?_
  refine r_iconst (v := 0) dX10_shareKnown_18 rfl ?_
  refine r_aload_n dX10_shareKnown_19 rfl ?_
  refine r_getR rfl rfl fl_10_54 dX10_shareKnown_20 ?_
  refine r_iconst (v := 0) dX10_shareKnown_23 rfl ?_
  refine r_bipush (v := 7) dX10_shareKnown_24 rfl ?_
  refine r_copy rfl rfl (fun _ => rfl) rfl (fd_in 841 (by decide +kernel) (by decide +kernel)) (fd_in 574 (by decide +kernel) (by decide +kernel)) (fd_in 573 (by decide +kernel) (by decide +kernel)) (fd_in 77 (by decide +kernel) (by decide +kernel)) (by decide) (by decide) (by decide) (by decide) (by decide) (fun _ _ => rfl) (by decide) (by decide) dX10_shareKnown_26 ?_
  rw [show (0 : Int32).toNatClampNeg = 0 from rfl, show (7 : Int32).toNatClampNeg = 7 from rfl]
  have x26 : xSt 8 s (fd_row I8 74 (va_cpy (I8 67) (I8 74) 0 0 7)) := x8.same (fun a _ a2 => fd_row_ne (by omega))
  refine r_aload_n dX10_shareKnown_29 rfl ?_
  refine r_aload_n dX10_shareKnown_30 rfl ?_
  refine r_getR rfl rfl fl_10_18 dX10_shareKnown_31 ?_
  refine r_getV rfl rfl fl_10_287 dX10_shareKnown_34 x26.num.2.2.2.2.1 ?_
  refine r_cVq (As := [_]) (c_X10_follow s α _ _ _ hs x26 hs.num.2.2.2.2.1) lk_10_151 rfl rfl (by decide) (by decide) rfl rfl (Nat.le_of_ble_eq_true rfl) dX10_shareKnown_37 (fun I37 L37 q37 => ?_)
  obtain ⟨rfl, f37, c37, l37⟩ := q37
  refine r_iconst (v := 0) dX10_shareKnown_40 rfl ?_
  refine r_istore_n (lv' := [(1, _), (0, _)]) dX10_shareKnown_41 (Nat.le_of_ble_eq_true rfl) rfl ?_
  refine r_keep [1, 0] rfl (loop I37 (f37.st x26 (by decide)) (fun a ha => ?_) (fun d hd => ⟨(l37 d hd).2.2, ?_⟩) 0 (by omega) I37 (fun _ _ => rfl) (fun d hd => ?_))
  · rw [f37 a (by omega), fd_row_ne (by omega), f8 a (by omega)]
  · rw [f37 74 (by decide), fd_row_same]
    unfold va_cpy
    rw [if_pos (by omega), Nat.zero_add, Nat.sub_zero]
    exact (l8 d hd).2.2
  · rw [if_neg (by omega), f37 74 (by decide), fd_row_same]
    unfold va_cpy
    rw [if_pos (by omega), Nat.zero_add, Nat.sub_zero]
    exact (l8 d hd).2.2
theorem xOut.scr {s : pS} {r : Int32} {I I1 : fdI} {L : fdL} (hx : xSt 8 s I) (c : ∀ a, a < 57 ∨ a = 76 → I1 a = I a) : xOut (r, s, 3) I L (.int r) I1 L := xOut.none (hx.same (fun a _ a2 => c a (by omega))) (fun a ha => c a (by omega)) (c 76 (by decide))
def o_two (s : pS) (d : Int32) : oT := if dayP d s.2.1 then (twV s.1 s.2.1 s.2.2.1 (prm s.2.1 s.2.2.2.2.2.1) (prm s.2.1 s.2.2.2.2.2.2.1) d.toNatClampNeg, s, 3) else (-2, s, 0)
theorem c_X10_two (s : pS) (α : Nat → Nat) (I : fdI) (L : fdL) (d : Int32) (hs : stOk s) (hx : xSt 8 s I) : Con fd_SX α yX10_two mX10_two [.ref (α 0), .int d] I L (fd_ip (xOut (o_two s d) I L)) := by
  refine Con.of (by decide) rfl (Nat.le_of_ble_eq_true rfl) ?_
  unfold o_two
  have hn7 := hs.n7
  by_cases hok : dayP d s.2.1
  · rw [if_pos hok]
    obtain ⟨j, hj, rfl⟩ := dayP_nI hok
    rw [nI_clamp (by omega)]
    refine r_aload_n dX10_two_0 rfl ?_
    refine r_getR rfl rfl fl_10_18 dX10_two_1 ?_
    refine r_iload_n dX10_two_4 rfl ?_
    refine r_cVr (As := [_]) (c_X5_hasDay α _ _ _ hx.n hn7) lk_10_144 rfl rfl (by decide) (by decide) rfl rfl (Nat.le_of_ble_eq_true rfl) dX10_two_5 ?_
    refine r_if_ne 18 dX10_two_8 (by decide) (fun h8 => ?_) (fun h8 => absurd h8 (fd_bn.mpr hok))
    refine r_aload_n dX10_two_18 rfl ?_
    refine r_cVq (As := []) (c_X10_shareKnown s α _ _ hs hx) lk_10_238 rfl rfl (by decide) (by decide) rfl rfl (Nat.le_of_ble_eq_true rfl) dX10_two_19 (fun I19 L19 q19 => ?_)
    obtain ⟨rfl, f19, k19⟩ := q19
    refine r_aload_n dX10_two_22 rfl ?_
    refine r_getR rfl rfl fl_10_54 dX10_two_23 ?_
    refine r_iload_n dX10_two_26 rfl ?_
    refine r_ialdN rfl dX10_two_27 (by omega) (by omega) (k19 j hj) ?_
    refine r_iret rfl dX10_two_28 ?_
    exact ⟨_, rfl, xOut.scr hx f19⟩
  · rw [if_neg hok]
    refine r_aload_n dX10_two_0 rfl ?_
    refine r_getR rfl rfl fl_10_18 dX10_two_1 ?_
    refine r_iload_n dX10_two_4 rfl ?_
    refine r_cVr (As := [_]) (c_X5_hasDay α _ _ _ hx.n hn7) lk_10_144 rfl rfl (by decide) (by decide) rfl rfl (Nat.le_of_ble_eq_true rfl) dX10_two_5 ?_
    refine r_if_ne 18 dX10_two_8 (by decide) (fun h8 => absurd h8 (not_not_intro (fd_b0.mpr hok))) (fun h8 => ?_)
    refine r_aload_n dX10_two_11 rfl ?_
    refine r_bipush (v := (-2)) dX10_two_12 rfl ?_
    refine r_cVr (As := [_]) (c_X10_counted α _ _ _) lk_10_91 rfl rfl (by decide) (by decide) rfl rfl (Nat.le_of_ble_eq_true rfl) dX10_two_14 ?_
    refine r_iret rfl dX10_two_17 ?_
    exact ⟨_, rfl, xOut.cn hx xFr.rfl' rfl rfl⟩
theorem faF_stop {f : Nat → Bool} {m : Nat} (h : ¬ faF f m = -1) : ∀ n, m ≤ n → faF f n = faF f m := by
  intro n
  induction n with
  | zero => intro hn; rw [show m = 0 by omega]
  | succ n ih =>
    intro hn
    by_cases q : m = n + 1
    · rw [q]
    · have h1 := ih (by omega)
      show (if f n = true ∧ faF f n = -1 then nI n else faF f n) = _
      rw [if_neg (fun z => h (h1 ▸ z.2)), h1]
def o_settle (s : pS) (f w : Int32) : oT := if dayP f 6 ∧ dayP w 2 then (seR s.1 s.2.1 s.2.2.1 (prm s.2.1 s.2.2.2.2.2.1) (prm s.2.1 s.2.2.2.2.2.2.1) f w, s, 3) else (-10, s, 0)
theorem c_X10_settle (s : pS) (α : Nat → Nat) (I : fdI) (L : fdL) (f w : Int32) (hs : stOk s) (hx : xSt 8 s I) : Con fd_SX α yX10_settle mX10_settle [.ref (α 0), .int f, .int w] I L (fd_ip (xOut (o_settle s f w) I L)) := by
  refine Con.of (by decide) rfl (Nat.le_of_ble_eq_true rfl) ?_
  unfold o_settle
  have hn7 := hs.n7
  by_cases hok : dayP f 6 ∧ dayP w 2
  · rw [if_pos hok]
    have g1 : w ≤ 1 := le_of_dayP (m := 1) hok.2 (by decide)
    generalize hS : seB s.1 s.2.1 s.2.2.1 (prm s.2.1 s.2.2.2.2.2.1) (prm s.2.1 s.2.2.2.2.2.2.1) f = S
    have hR : seR s.1 s.2.1 s.2.2.1 (prm s.2.1 s.2.2.2.2.2.1) (prm s.2.1 s.2.2.2.2.2.2.1) f w = if w = 0 then nI (cnN S s.2.1) else faF S s.2.1 := by unfold seR; rw [hS]
    rw [hR]
    have loop : ∀ I1 : fdI, (∀ a, a < 57 ∨ a = 76 → I1 a = I a) → (∀ d, d < s.2.1 → I1 74 d = twV s.1 s.2.1 s.2.2.1 (prm s.2.1 s.2.2.2.2.2.1) (prm s.2.1 s.2.2.2.2.2.2.1) d) → ∀ k, k ≤ s.2.1 → ∀ (c : Nat) (x : Int32), c ≤ 7 → cnN S k + c = cnN S s.2.1 → (faF S k = -1 → x = faF S s.2.1) → Rn fd_SX α mX10_settle 43 [(5, .int (avI k)), (4, .int x), (3, .int (nI c)), (0, .ref (α 0)), (1, .int f), (2, .int w)] [] I1 L (fd_ip (xOut (if w = 0 then nI (cnN S s.2.1) else faF S s.2.1, s, 3) I L)) := by
      intro I1 f1 k1 k
      induction k with
      | zero =>
        intro _ c x hc h1 h2
        have h1 : 0 + c = cnN S s.2.1 := h1
        have h2 := h2 rfl
        rw [Nat.zero_add] at h1
        rw [← h1, ← h2]
        by_cases hw : w = 0
        · rw [if_pos hw]
          refine r_iload dX10_settle_43 rfl ?_
          refine r_if_lt 75 dX10_settle_45 (by decide) (fun h45 => ?_) (fun h45 => absurd h45 (not_not_intro (by decide)))
          refine r_iload_n dX10_settle_75 rfl ?_
          refine r_if_ne 83 dX10_settle_76 (by decide) (fun h76 => absurd h76 (not_not_intro hw)) (fun h76 => ?_)
          refine r_iload_n dX10_settle_79 rfl ?_
          refine r_goto (tgt := 85) dX10_settle_80 (by decide) ?_
          refine r_iret rfl dX10_settle_85 ?_
          exact ⟨_, rfl, xOut.scr hx f1⟩
        · rw [if_neg hw]
          refine r_iload dX10_settle_43 rfl ?_
          refine r_if_lt 75 dX10_settle_45 (by decide) (fun h45 => ?_) (fun h45 => absurd h45 (not_not_intro (by decide)))
          refine r_iload_n dX10_settle_75 rfl ?_
          refine r_if_ne 83 dX10_settle_76 (by decide) (fun h76 => ?_) (fun h76 => absurd h76 hw)
          refine r_iload dX10_settle_83 rfl ?_
          refine r_iret rfl dX10_settle_85 ?_
          exact ⟨_, rfl, xOut.scr hx f1⟩
      | succ k ih =>
        intro hk c x hc h1 h2
        have e1 := k1 k (by omega)
        have hcn := cnN_le S s.2.1
        have h1 : cnN S k + (if S k then 1 else 0) + c = cnN S s.2.1 := h1
        by_cases hb : S k = true
        · have hb2 : ¬ (twV s.1 s.2.1 s.2.2.1 (prm s.2.1 s.2.2.2.2.2.1) (prm s.2.1 s.2.2.2.2.2.2.1) k >>> (f &&& 31)) &&& 1 = 0 := by
            intro q
            rw [bit_two hok.1] at q
            rw [← hS] at hb
            unfold seB at hb
            rw [decide_eq_true q] at hb
            cases hb
          rw [if_pos hb] at h1
          have h3 : faF S k = -1 → nI k = faF S s.2.1 := by
            intro z
            have e2 : faF S (k + 1) = nI k := if_pos ⟨hb, z⟩
            rw [faF_stop (m := k + 1) (by rw [e2]; exact nI_n1 (by omega)) s.2.1 hk, e2]
          show Rn fd_SX α mX10_settle 43 [(5, .int (nI k)), (4, .int x), (3, .int (nI c)), (0, .ref (α 0)), (1, .int f), (2, .int w)] [] I1 L _
          refine r_iload dX10_settle_43 rfl ?_
          refine r_if_lt 75 dX10_settle_45 (by decide) (fun h45 => absurd h45 (nI_pos (by omega))) (fun h45 => ?_)
          refine r_aload_n dX10_settle_48 rfl ?_
          refine r_getR rfl rfl fl_10_54 dX10_settle_49 ?_
          refine r_iload dX10_settle_52 rfl ?_
          refine r_ialdN rfl dX10_settle_54 (by omega) (by omega) e1 ?_
          refine r_iload_n dX10_settle_55 rfl ?_
          refine r_ishr dX10_settle_56 ?_
          refine r_iconst (v := 1) dX10_settle_57 rfl ?_
          refine r_iand dX10_settle_58 ?_
          refine r_if_eq 69 dX10_settle_59 (by decide) (fun h59 => absurd h59 hb2) (fun h59 => ?_)
          refine r_iinc (v := _ + 1) (lv' := [(3, _), (5, _), (4, _), (0, _), (1, _), (2, _)]) dX10_settle_62 rfl rfl (Nat.le_of_ble_eq_true rfl) rfl ?_
          rw [nI_1]
          refine r_iload dX10_settle_65 rfl ?_
          refine r_istore (lv' := [(4, _), (3, _), (5, _), (0, _), (1, _), (2, _)]) dX10_settle_67 (Nat.le_of_ble_eq_true rfl) rfl ?_
          refine r_iinc (v := _ + (-1)) (lv' := [(5, _), (4, _), (3, _), (0, _), (1, _), (2, _)]) dX10_settle_69 rfl rfl (Nat.le_of_ble_eq_true rfl) rfl ?_
          rw [avI_m]
          refine r_goto (tgt := 43) dX10_settle_72 (by decide) ?_
          exact r_keep [5, 4, 3, 0, 1, 2] rfl (ih (by omega) (c + 1) (nI k) (by omega) (by omega) h3)
        · have hb2 : (twV s.1 s.2.1 s.2.2.1 (prm s.2.1 s.2.2.2.2.2.1) (prm s.2.1 s.2.2.2.2.2.2.1) k >>> (f &&& 31)) &&& 1 = 0 := by
            rw [bit_two hok.1]
            refine Decidable.byContradiction fun q => hb ?_
            rw [← hS]
            unfold seB
            rw [decide_eq_false q]
            rfl
          rw [if_neg hb] at h1
          have h3 : faF S k = -1 → x = faF S s.2.1 := by
            intro z
            refine h2 ?_
            show (if S k = true ∧ faF S k = -1 then nI k else faF S k) = -1
            rw [if_neg (fun q => hb q.1)]
            exact z
          show Rn fd_SX α mX10_settle 43 [(5, .int (nI k)), (4, .int x), (3, .int (nI c)), (0, .ref (α 0)), (1, .int f), (2, .int w)] [] I1 L _
          refine r_iload dX10_settle_43 rfl ?_
          refine r_if_lt 75 dX10_settle_45 (by decide) (fun h45 => absurd h45 (nI_pos (by omega))) (fun h45 => ?_)
          refine r_aload_n dX10_settle_48 rfl ?_
          refine r_getR rfl rfl fl_10_54 dX10_settle_49 ?_
          refine r_iload dX10_settle_52 rfl ?_
          refine r_ialdN rfl dX10_settle_54 (by omega) (by omega) e1 ?_
          refine r_iload_n dX10_settle_55 rfl ?_
          refine r_ishr dX10_settle_56 ?_
          refine r_iconst (v := 1) dX10_settle_57 rfl ?_
          refine r_iand dX10_settle_58 ?_
          refine r_if_eq 69 dX10_settle_59 (by decide) (fun h59 => ?_) (fun h59 => absurd h59 (not_not_intro hb2))
          refine r_iinc (v := _ + (-1)) (lv' := [(5, _), (4, _), (3, _), (0, _), (1, _), (2, _)]) dX10_settle_69 rfl rfl (Nat.le_of_ble_eq_true rfl) rfl ?_
          rw [avI_m]
          refine r_goto (tgt := 43) dX10_settle_72 (by decide) ?_
          exact r_keep [5, 4, 3, 0, 1, 2] rfl (ih (by omega) c x hc (by omega) h3)
    have en1 : nI s.2.1 - 1 = avI s.2.1 := by
      obtain ⟨m, hm⟩ : ∃ m, s.2.1 = m + 1 := ⟨s.2.1 - 1, by omega⟩
      rw [hm]
      exact nI_pred m
    refine r_iload_n dX10_settle_0 rfl ?_
    refine r_cSr (As := [_]) (c_X10_isFact α _ _ _) lk_10_225 (by decide) (by decide) rfl rfl (Nat.le_of_ble_eq_true rfl) dX10_settle_1 ?_
    refine r_if_eq 16 dX10_settle_4 (by decide) (fun h4 => absurd h4 (fd_bn.mpr hok.1)) (fun h4 => ?_)
    refine r_iload_n dX10_settle_7 rfl ?_
    refine r_if_lt 16 dX10_settle_8 (by decide) (fun h8 => absurd h8 (dayP_n0 hok.2)) (fun h8 => ?_)
    refine r_iload_n dX10_settle_11 rfl ?_
    refine r_iconst (v := 1) dX10_settle_12 rfl ?_
    refine r_icmp_le 23 dX10_settle_13 (by decide) (fun h13 => ?_) (fun h13 => absurd h13 (not_not_intro g1))
    refine r_aload_n dX10_settle_23 rfl ?_
    refine r_cVq (As := []) (c_X10_shareKnown s α _ _ hs hx) lk_10_238 rfl rfl (by decide) (by decide) rfl rfl (Nat.le_of_ble_eq_true rfl) dX10_settle_24 (fun I24 L24 q24 => ?_)
    obtain ⟨rfl, f24, k24⟩ := q24
    refine r_iconst (v := 0) dX10_settle_27 rfl ?_
    refine r_istore_n (lv' := [(3, _), (0, _), (1, _), (2, _)]) dX10_settle_28 (Nat.le_of_ble_eq_true rfl) rfl ?_
    refine r_iconst (v := (-1)) dX10_settle_29 rfl ?_
    refine r_istore (lv' := [(4, _), (3, _), (0, _), (1, _), (2, _)]) dX10_settle_30 (Nat.le_of_ble_eq_true rfl) rfl ?_
    refine r_aload_n dX10_settle_32 rfl ?_
    refine r_getR rfl rfl fl_10_18 dX10_settle_33 ?_
    refine r_getV rfl rfl fl_10_170 dX10_settle_36 (hx.same (J := I24) (fun a _ a2 => f24 a (by omega))).n ?_
    refine r_iconst (v := 1) dX10_settle_39 rfl ?_
    refine r_isub dX10_settle_40 ?_
    rw [en1]
    refine r_istore (lv' := [(5, _), (4, _), (3, _), (0, _), (1, _), (2, _)]) dX10_settle_41 (Nat.le_of_ble_eq_true rfl) rfl ?_
    exact r_keep [5, 4, 3, 0, 1, 2] rfl (loop _ f24 k24 s.2.1 (Nat.le_refl _) 0 (-1) (by omega) (by omega) (fun z => z.symm))
  · rw [if_neg hok]
    refine r_iload_n dX10_settle_0 rfl ?_
    refine r_cSr (As := [_]) (c_X10_isFact α _ _ _) lk_10_225 (by decide) (by decide) rfl rfl (Nat.le_of_ble_eq_true rfl) dX10_settle_1 ?_
    refine r_if_eq 16 dX10_settle_4 (by decide) (fun h4 => ?_) (fun h4 => ?_)
    · refine r_aload_n dX10_settle_16 rfl ?_
      refine r_bipush (v := (-10)) dX10_settle_17 rfl ?_
      refine r_cVr (As := [_]) (c_X10_badAs α _ _ _) lk_10_111 rfl rfl (by decide) (by decide) rfl rfl (Nat.le_of_ble_eq_true rfl) dX10_settle_19 ?_
      refine r_iret rfl dX10_settle_22 ?_
      exact ⟨_, rfl, xOut.bad hx⟩
    · refine r_iload_n dX10_settle_7 rfl ?_
      refine r_if_lt 16 dX10_settle_8 (by decide) (fun h8 => ?_) (fun h8 => ?_)
      · refine r_aload_n dX10_settle_16 rfl ?_
        refine r_bipush (v := (-10)) dX10_settle_17 rfl ?_
        refine r_cVr (As := [_]) (c_X10_badAs α _ _ _) lk_10_111 rfl rfl (by decide) (by decide) rfl rfl (Nat.le_of_ble_eq_true rfl) dX10_settle_19 ?_
        refine r_iret rfl dX10_settle_22 ?_
        exact ⟨_, rfl, xOut.bad hx⟩
      · refine r_iload_n dX10_settle_11 rfl ?_
        refine r_iconst (v := 1) dX10_settle_12 rfl ?_
        refine r_icmp_le 23 dX10_settle_13 (by decide) (fun h13 => absurd h13 (fun q => hok ⟨fd_bn.mp h4, dayP_le (m := 1) (by decide) h8 q⟩)) (fun h13 => ?_)
        refine r_aload_n dX10_settle_16 rfl ?_
        refine r_bipush (v := (-10)) dX10_settle_17 rfl ?_
        refine r_cVr (As := [_]) (c_X10_badAs α _ _ _) lk_10_111 rfl rfl (by decide) (by decide) rfl rfl (Nat.le_of_ble_eq_true rfl) dX10_settle_19 ?_
        refine r_iret rfl dX10_settle_22 ?_
        exact ⟨_, rfl, xOut.bad hx⟩
