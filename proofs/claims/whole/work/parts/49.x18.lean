/-! the class: what she knows by date, as the course reckons it: all that lies is kept as it grows -/
/-- what lies at a date; what she reads there; what she knows there -/
def kyL (V : pV) (N B : Nat → Int32) : Nat → Int32
  | 0 => 0
  | d + 1 => if wrB V d then kyL V N B d ||| (N d &&& (B d ||| if rdB V d then kyL V N B d else 0)) else kyL V N B d
def kyF (V : pV) (N B : Nat → Int32) (d : Nat) : Int32 := if rdB V d then kyL V N B d else 0
def kyK (V : pV) (N B : Nat → Int32) (d : Nat) : Int32 := B d ||| kyF V N B d
def rbP (V : pV) (n : Nat) (N B : Nat → Int32) (I : fdI) (L : fdL) (I' : fdI) (L' : fdL) : Prop := L' = L ∧ (∀ a, a ≠ 66 → a ≠ 67 → I' a = I a) ∧ ∀ d, d < n → I' 66 d = kyF V N B d ∧ I' 67 d = kyK V N B d
theorem c_X2_readByDate (V : pV) (N B : Nat → Int32) (α : Nat → Nat) (I : fdI) (L : fdL) (kb : Nat) (hS : fd_SX[kb]? = some (.inr (.inl (0, 7)))) (hkb : kb ≠ 66 ∧ kb ≠ 67) {n : Nat} (hn7 : 1 ≤ n ∧ n ≤ 7) (h : lkC V n N I) (hB : ∀ d, d < n → I kb d = B d) : Con fd_SX α yX2_readByDate mX2_readByDate [.ref (α 57), .ref (α kb)] I L (fd_vp (rbP V n N B I L)) := by
  refine Con.of (by decide) rfl (Nat.le_of_ble_eq_true rfl) ?_
  have loop : ∀ k, k ≤ n → ∀ I1 : fdI, (∀ a, a ≠ 66 → a ≠ 67 → I1 a = I a) → (∀ d, d < k → I1 66 d = kyF V N B d ∧ I1 67 d = kyK V N B d) → Rn fd_SX α mX2_readByDate 4 [(3, .int (nI k)), (2, .int (kyL V N B k)), (0, .ref (α 57)), (1, .ref (α kb))] [] I1 L (fd_vp (rbP V n N B I L)) := by
    refine fd_down (fun k hk ih => ?_)
    intro I1 g1 g2
    have hd : I1 57 0 = nI n := by rw [g1 57 (by decide) (by decide)]; exact h.1
    by_cases hx : k = n
    · subst hx
      refine r_iload_n dX2_readByDate_4 rfl ?_
      refine r_aload_n dX2_readByDate_5 rfl ?_
      refine r_getV rfl rfl fl_2_49 dX2_readByDate_6 hd ?_
      refine r_icmp_ge 79 dX2_readByDate_9 (by decide) (fun h9 => ?_) (fun h9 => absurd h9 (not_not_intro (Int32.le_refl _)))
      refine r_vret rfl dX2_readByDate_79 ?_
      exact ⟨rfl, rfl, g1, g2⟩
    · obtain ⟨e1, e2, -, -, e5⟩ := h.2 k (by omega)
      have e1 : I1 60 k = fd_b (rdB V k = true) := by rw [g1 60 (by decide) (by decide)]; exact e1
      have e2 : I1 61 k = fd_b (wrB V k = true) := by rw [g1 61 (by decide) (by decide)]; exact e2
      have e5 : I1 64 k = N k := by rw [g1 64 (by decide) (by decide)]; exact e5
      have eB : I1 kb k = B k := by rw [g1 kb hkb.1 hkb.2]; exact hB k (by omega)
      have nx : ∀ x : Int32, x = kyF V N B k → (∀ a, a ≠ 66 → a ≠ 67 → fd_up (fd_up I1 66 k x) 67 k (B k ||| x) a = I a) ∧ ∀ d, d < k + 1 → fd_up (fd_up I1 66 k x) 67 k (B k ||| x) 66 d = kyF V N B d ∧ fd_up (fd_up I1 66 k x) 67 k (B k ||| x) 67 d = kyK V N B d := by
        intro x hx
        subst hx
        refine ⟨fun a a1 a2 => by rw [fd_up_cell a2, fd_up_cell a1]; exact g1 a a1 a2, fun d hd => ?_⟩
        rw [fd_up_ne (by decide), fd_up_at, fd_up_at, fd_up_ne (by decide)]
        by_cases q : d = k
        · rw [if_pos q, if_pos q, q]; exact ⟨rfl, rfl⟩
        · rw [if_neg q, if_neg q]; exact g2 d (by omega)
      by_cases hR : rdB V k = true
      · have eF : kyL V N B k = kyF V N B k := by unfold kyF; rw [if_pos hR]
        obtain ⟨n1, n2⟩ := nx _ eF
        by_cases hW : wrB V k = true
        · have eL : kyL V N B (k + 1) = kyL V N B k ||| (N k &&& (B k ||| kyL V N B k)) := by
            show (if wrB V k = true then _ else _) = _
            rw [if_pos hW, if_pos hR]
          refine r_iload_n dX2_readByDate_4 rfl ?_
          refine r_aload_n dX2_readByDate_5 rfl ?_
          refine r_getV rfl rfl fl_2_49 dX2_readByDate_6 hd ?_
          refine r_icmp_ge 79 dX2_readByDate_9 (by decide) (fun h9 => absurd h9 (fun q => absurd ((nI_leI (by omega) (by omega)).mp q) (by omega))) (fun h9 => ?_)
          refine r_aload_n dX2_readByDate_12 rfl ?_
          refine r_getR rfl rfl fl_2_37 dX2_readByDate_13 ?_
          refine r_iload_n dX2_readByDate_16 rfl ?_
          refine r_aload_n dX2_readByDate_17 rfl ?_
          refine r_getR rfl rfl fl_2_18 dX2_readByDate_18 ?_
          refine r_iload_n dX2_readByDate_21 rfl ?_
          refine r_zaldN rfl dX2_readByDate_22 (by omega) (by omega) e1 ?_
          refine r_if_eq 30 dX2_readByDate_23 (by decide) (fun h23 => absurd h23 (fd_bn.mpr hR)) (fun h23 => ?_)
          refine r_iload_n dX2_readByDate_26 rfl ?_
          refine r_goto (tgt := 31) dX2_readByDate_27 (by decide) ?_
          refine r_iastN rfl dX2_readByDate_31 (by omega) (by omega) ?_
          refine r_aload_n dX2_readByDate_32 rfl ?_
          refine r_getR rfl rfl fl_2_40 dX2_readByDate_33 ?_
          refine r_iload_n dX2_readByDate_36 rfl ?_
          refine r_aload_n dX2_readByDate_37 rfl ?_
          refine r_iload_n dX2_readByDate_38 rfl ?_
          refine r_ialdN hS dX2_readByDate_39 (by omega) (by omega) ((fd_up_ne hkb.1).trans eB) ?_
          refine r_aload_n dX2_readByDate_40 rfl ?_
          refine r_getR rfl rfl fl_2_37 dX2_readByDate_41 ?_
          refine r_iload_n dX2_readByDate_44 rfl ?_
          refine r_ialdN rfl dX2_readByDate_45 (by omega) (by omega) fd_up_same ?_
          refine r_ior dX2_readByDate_46 ?_
          refine r_iastN rfl dX2_readByDate_47 (by omega) (by omega) ?_
          refine r_aload_n dX2_readByDate_48 rfl ?_
          refine r_getR rfl rfl fl_2_22 dX2_readByDate_49 ?_
          refine r_iload_n dX2_readByDate_52 rfl ?_
          refine r_zaldN rfl dX2_readByDate_53 (by omega) (by omega) e2 ?_
          refine r_if_eq 73 dX2_readByDate_54 (by decide) (fun h54 => absurd h54 (fd_bn.mpr hW)) (fun h54 => ?_)
          refine r_iload_n dX2_readByDate_57 rfl ?_
          refine r_aload_n dX2_readByDate_58 rfl ?_
          refine r_getR rfl rfl fl_2_31 dX2_readByDate_59 ?_
          refine r_iload_n dX2_readByDate_62 rfl ?_
          refine r_ialdN rfl dX2_readByDate_63 (by omega) (by omega) e5 ?_
          refine r_aload_n dX2_readByDate_64 rfl ?_
          refine r_getR rfl rfl fl_2_40 dX2_readByDate_65 ?_
          refine r_iload_n dX2_readByDate_68 rfl ?_
          refine r_ialdN rfl dX2_readByDate_69 (by omega) (by omega) fd_up_same ?_
          refine r_iand dX2_readByDate_70 ?_
          refine r_ior dX2_readByDate_71 ?_
          refine r_istore_n (lv' := [(2, _), (3, _), (0, _), (1, _)]) dX2_readByDate_72 (Nat.le_of_ble_eq_true rfl) rfl ?_
          refine r_iinc (v := _ + 1) (lv' := [(3, _), (2, _), (0, _), (1, _)]) dX2_readByDate_73 rfl rfl (Nat.le_of_ble_eq_true rfl) rfl ?_
          refine r_goto (tgt := 4) dX2_readByDate_76 (by decide) ?_
          rw [nI_1]
          have ih2 := ih (by omega)
          rw [eL] at ih2
          exact r_keep [3, 2, 0, 1] rfl (ih2 _ n1 n2)
        · have eL : kyL V N B (k + 1) = kyL V N B k := by
            show (if wrB V k = true then _ else _) = _
            rw [if_neg hW]
          refine r_iload_n dX2_readByDate_4 rfl ?_
          refine r_aload_n dX2_readByDate_5 rfl ?_
          refine r_getV rfl rfl fl_2_49 dX2_readByDate_6 hd ?_
          refine r_icmp_ge 79 dX2_readByDate_9 (by decide) (fun h9 => absurd h9 (fun q => absurd ((nI_leI (by omega) (by omega)).mp q) (by omega))) (fun h9 => ?_)
          refine r_aload_n dX2_readByDate_12 rfl ?_
          refine r_getR rfl rfl fl_2_37 dX2_readByDate_13 ?_
          refine r_iload_n dX2_readByDate_16 rfl ?_
          refine r_aload_n dX2_readByDate_17 rfl ?_
          refine r_getR rfl rfl fl_2_18 dX2_readByDate_18 ?_
          refine r_iload_n dX2_readByDate_21 rfl ?_
          refine r_zaldN rfl dX2_readByDate_22 (by omega) (by omega) e1 ?_
          refine r_if_eq 30 dX2_readByDate_23 (by decide) (fun h23 => absurd h23 (fd_bn.mpr hR)) (fun h23 => ?_)
          refine r_iload_n dX2_readByDate_26 rfl ?_
          refine r_goto (tgt := 31) dX2_readByDate_27 (by decide) ?_
          refine r_iastN rfl dX2_readByDate_31 (by omega) (by omega) ?_
          refine r_aload_n dX2_readByDate_32 rfl ?_
          refine r_getR rfl rfl fl_2_40 dX2_readByDate_33 ?_
          refine r_iload_n dX2_readByDate_36 rfl ?_
          refine r_aload_n dX2_readByDate_37 rfl ?_
          refine r_iload_n dX2_readByDate_38 rfl ?_
          refine r_ialdN hS dX2_readByDate_39 (by omega) (by omega) ((fd_up_ne hkb.1).trans eB) ?_
          refine r_aload_n dX2_readByDate_40 rfl ?_
          refine r_getR rfl rfl fl_2_37 dX2_readByDate_41 ?_
          refine r_iload_n dX2_readByDate_44 rfl ?_
          refine r_ialdN rfl dX2_readByDate_45 (by omega) (by omega) fd_up_same ?_
          refine r_ior dX2_readByDate_46 ?_
          refine r_iastN rfl dX2_readByDate_47 (by omega) (by omega) ?_
          refine r_aload_n dX2_readByDate_48 rfl ?_
          refine r_getR rfl rfl fl_2_22 dX2_readByDate_49 ?_
          refine r_iload_n dX2_readByDate_52 rfl ?_
          refine r_zaldN rfl dX2_readByDate_53 (by omega) (by omega) e2 ?_
          refine r_if_eq 73 dX2_readByDate_54 (by decide) (fun h54 => ?_) (fun h54 => absurd h54 (not_not_intro (fd_b0.mpr hW)))
          refine r_iinc (v := _ + 1) (lv' := [(3, _), (2, _), (0, _), (1, _)]) dX2_readByDate_73 rfl rfl (Nat.le_of_ble_eq_true rfl) rfl ?_
          refine r_goto (tgt := 4) dX2_readByDate_76 (by decide) ?_
          rw [nI_1]
          have ih2 := ih (by omega)
          rw [eL] at ih2
          exact r_keep [3, 2, 0, 1] rfl (ih2 _ n1 n2)
      · have eF : (0 : Int32) = kyF V N B k := by unfold kyF; rw [if_neg hR]
        obtain ⟨n1, n2⟩ := nx _ eF
        by_cases hW : wrB V k = true
        · have eL : kyL V N B (k + 1) = kyL V N B k ||| (N k &&& (B k ||| 0)) := by
            show (if wrB V k = true then _ else _) = _
            rw [if_pos hW, if_neg hR]
          refine r_iload_n dX2_readByDate_4 rfl ?_
          refine r_aload_n dX2_readByDate_5 rfl ?_
          refine r_getV rfl rfl fl_2_49 dX2_readByDate_6 hd ?_
          refine r_icmp_ge 79 dX2_readByDate_9 (by decide) (fun h9 => absurd h9 (fun q => absurd ((nI_leI (by omega) (by omega)).mp q) (by omega))) (fun h9 => ?_)
          refine r_aload_n dX2_readByDate_12 rfl ?_
          refine r_getR rfl rfl fl_2_37 dX2_readByDate_13 ?_
          refine r_iload_n dX2_readByDate_16 rfl ?_
          refine r_aload_n dX2_readByDate_17 rfl ?_
          refine r_getR rfl rfl fl_2_18 dX2_readByDate_18 ?_
          refine r_iload_n dX2_readByDate_21 rfl ?_
          refine r_zaldN rfl dX2_readByDate_22 (by omega) (by omega) e1 ?_
          refine r_if_eq 30 dX2_readByDate_23 (by decide) (fun h23 => ?_) (fun h23 => absurd h23 (not_not_intro (fd_b0.mpr hR)))
          refine r_iconst (v := 0) dX2_readByDate_30 rfl ?_
          refine r_iastN rfl dX2_readByDate_31 (by omega) (by omega) ?_
          refine r_aload_n dX2_readByDate_32 rfl ?_
          refine r_getR rfl rfl fl_2_40 dX2_readByDate_33 ?_
          refine r_iload_n dX2_readByDate_36 rfl ?_
          refine r_aload_n dX2_readByDate_37 rfl ?_
          refine r_iload_n dX2_readByDate_38 rfl ?_
          refine r_ialdN hS dX2_readByDate_39 (by omega) (by omega) ((fd_up_ne hkb.1).trans eB) ?_
          refine r_aload_n dX2_readByDate_40 rfl ?_
          refine r_getR rfl rfl fl_2_37 dX2_readByDate_41 ?_
          refine r_iload_n dX2_readByDate_44 rfl ?_
          refine r_ialdN rfl dX2_readByDate_45 (by omega) (by omega) fd_up_same ?_
          refine r_ior dX2_readByDate_46 ?_
          refine r_iastN rfl dX2_readByDate_47 (by omega) (by omega) ?_
          refine r_aload_n dX2_readByDate_48 rfl ?_
          refine r_getR rfl rfl fl_2_22 dX2_readByDate_49 ?_
          refine r_iload_n dX2_readByDate_52 rfl ?_
          refine r_zaldN rfl dX2_readByDate_53 (by omega) (by omega) e2 ?_
          refine r_if_eq 73 dX2_readByDate_54 (by decide) (fun h54 => absurd h54 (fd_bn.mpr hW)) (fun h54 => ?_)
          refine r_iload_n dX2_readByDate_57 rfl ?_
          refine r_aload_n dX2_readByDate_58 rfl ?_
          refine r_getR rfl rfl fl_2_31 dX2_readByDate_59 ?_
          refine r_iload_n dX2_readByDate_62 rfl ?_
          refine r_ialdN rfl dX2_readByDate_63 (by omega) (by omega) e5 ?_
          refine r_aload_n dX2_readByDate_64 rfl ?_
          refine r_getR rfl rfl fl_2_40 dX2_readByDate_65 ?_
          refine r_iload_n dX2_readByDate_68 rfl ?_
          refine r_ialdN rfl dX2_readByDate_69 (by omega) (by omega) fd_up_same ?_
          refine r_iand dX2_readByDate_70 ?_
          refine r_ior dX2_readByDate_71 ?_
          refine r_istore_n (lv' := [(2, _), (3, _), (0, _), (1, _)]) dX2_readByDate_72 (Nat.le_of_ble_eq_true rfl) rfl ?_
          refine r_iinc (v := _ + 1) (lv' := [(3, _), (2, _), (0, _), (1, _)]) dX2_readByDate_73 rfl rfl (Nat.le_of_ble_eq_true rfl) rfl ?_
          refine r_goto (tgt := 4) dX2_readByDate_76 (by decide) ?_
          rw [nI_1]
          have ih2 := ih (by omega)
          rw [eL] at ih2
          exact r_keep [3, 2, 0, 1] rfl (ih2 _ n1 n2)
        · have eL : kyL V N B (k + 1) = kyL V N B k := by
            show (if wrB V k = true then _ else _) = _
            rw [if_neg hW]
          refine r_iload_n dX2_readByDate_4 rfl ?_
          refine r_aload_n dX2_readByDate_5 rfl ?_
          refine r_getV rfl rfl fl_2_49 dX2_readByDate_6 hd ?_
          refine r_icmp_ge 79 dX2_readByDate_9 (by decide) (fun h9 => absurd h9 (fun q => absurd ((nI_leI (by omega) (by omega)).mp q) (by omega))) (fun h9 => ?_)
          refine r_aload_n dX2_readByDate_12 rfl ?_
          refine r_getR rfl rfl fl_2_37 dX2_readByDate_13 ?_
          refine r_iload_n dX2_readByDate_16 rfl ?_
          refine r_aload_n dX2_readByDate_17 rfl ?_
          refine r_getR rfl rfl fl_2_18 dX2_readByDate_18 ?_
          refine r_iload_n dX2_readByDate_21 rfl ?_
          refine r_zaldN rfl dX2_readByDate_22 (by omega) (by omega) e1 ?_
          refine r_if_eq 30 dX2_readByDate_23 (by decide) (fun h23 => ?_) (fun h23 => absurd h23 (not_not_intro (fd_b0.mpr hR)))
          refine r_iconst (v := 0) dX2_readByDate_30 rfl ?_
          refine r_iastN rfl dX2_readByDate_31 (by omega) (by omega) ?_
          refine r_aload_n dX2_readByDate_32 rfl ?_
          refine r_getR rfl rfl fl_2_40 dX2_readByDate_33 ?_
          refine r_iload_n dX2_readByDate_36 rfl ?_
          refine r_aload_n dX2_readByDate_37 rfl ?_
          refine r_iload_n dX2_readByDate_38 rfl ?_
          refine r_ialdN hS dX2_readByDate_39 (by omega) (by omega) ((fd_up_ne hkb.1).trans eB) ?_
          refine r_aload_n dX2_readByDate_40 rfl ?_
          refine r_getR rfl rfl fl_2_37 dX2_readByDate_41 ?_
          refine r_iload_n dX2_readByDate_44 rfl ?_
          refine r_ialdN rfl dX2_readByDate_45 (by omega) (by omega) fd_up_same ?_
          refine r_ior dX2_readByDate_46 ?_
          refine r_iastN rfl dX2_readByDate_47 (by omega) (by omega) ?_
          refine r_aload_n dX2_readByDate_48 rfl ?_
          refine r_getR rfl rfl fl_2_22 dX2_readByDate_49 ?_
          refine r_iload_n dX2_readByDate_52 rfl ?_
          refine r_zaldN rfl dX2_readByDate_53 (by omega) (by omega) e2 ?_
          refine r_if_eq 73 dX2_readByDate_54 (by decide) (fun h54 => ?_) (fun h54 => absurd h54 (not_not_intro (fd_b0.mpr hW)))
          refine r_iinc (v := _ + 1) (lv' := [(3, _), (2, _), (0, _), (1, _)]) dX2_readByDate_73 rfl rfl (Nat.le_of_ble_eq_true rfl) rfl ?_
          refine r_goto (tgt := 4) dX2_readByDate_76 (by decide) ?_
          rw [nI_1]
          have ih2 := ih (by omega)
          rw [eL] at ih2
          exact r_keep [3, 2, 0, 1] rfl (ih2 _ n1 n2)
  refine r_iconst (v := 0) dX2_readByDate_0 rfl ?_
  refine r_istore_n (lv' := [(2, _), (0, _), (1, _)]) dX2_readByDate_1 (Nat.le_of_ble_eq_true rfl) rfl ?_
  refine r_iconst (v := 0) dX2_readByDate_2 rfl ?_
  refine r_istore_n (lv' := [(3, _), (2, _), (0, _), (1, _)]) dX2_readByDate_3 (Nat.le_of_ble_eq_true rfl) rfl ?_
  exact r_keep [3, 2, 0, 1] rfl (loop 0 (by omega) I (fun _ _ _ => rfl) (fun d hd => by omega))
theorem ky_step {V : pV} {K : Nat → Int32} {d : Nat} (hd : d < 7) : ∀ k, (∀ i, i < k → dayP (V 6 i) 7) → orN (ntV V K (d + 1)) k = if wrB V d then orN (ntV V K d) k ||| (noV V (nI d) k &&& K d) else orN (ntV V K d) k := by
  intro k
  induction k with
  | zero => intro _; show (0 : Int32) = _; split <;> simp [orN, noV]
  | succ k ih =>
    intro hV
    have ih := ih (fun i hi => hV i (by omega))
    obtain ⟨e, he, ee⟩ := dayP_nI (hV k (by omega))
    have ec : (V 6 k).toNatClampNeg = e := by rw [ee, nI_clamp (by omega)]
    show orN (ntV V K (d + 1)) k ||| ntV V K (d + 1) k = if wrB V d then (orN (ntV V K d) k ||| ntV V K d k) ||| ((noV V (nI d) k ||| if V 6 k = nI d then 1 <<< (V 7 k &&& 31) else 0) &&& K d) else orN (ntV V K d) k ||| ntV V K d k
    rw [ih]
    by_cases q : e = d
    · subst q
      have e1 : ntV V K e k = 0 := by unfold ntV; rw [ec, if_neg (fun z => absurd z.1 (by omega))]
      rw [e1, if_pos ee, Int32.or_zero]
      by_cases w : wrB V e = true
      · have e2 : ntV V K (e + 1) k = K e &&& 1 <<< (V 7 k &&& 31) := by unfold ntV; rw [ec, if_pos ⟨by omega, w⟩]
        rw [if_pos w, if_pos w, e2, i_or_and, Int32.or_assoc, Int32.and_comm (K e)]
      · have e2 : ntV V K (e + 1) k = 0 := by unfold ntV; rw [ec, if_neg (fun z => w z.2)]
        rw [if_neg w, if_neg w, e2, Int32.or_zero]
    · have e1 : ntV V K (d + 1) k = ntV V K d k := by
        unfold ntV
        rw [ec]
        by_cases c : e < d
        · by_cases w : wrB V e = true
          · rw [if_pos ⟨by omega, w⟩, if_pos ⟨c, w⟩]
          · rw [if_neg (fun z => w z.2), if_neg (fun z => w z.2)]
        · rw [if_neg (fun z => absurd z.1 (by omega)), if_neg (fun z => c z.1)]
      have e2 : ¬ V 6 k = nI d := fun z => q ((nI_eq (by omega) (by omega)).mp (ee.symm.trans z))
      rw [e1, if_neg e2, Int32.or_zero]
      by_cases w : wrB V d = true
      · rw [if_pos w, if_pos w, Int32.or_assoc, Int32.or_assoc, Int32.or_comm (ntV V K d k)]
      · rw [if_neg w, if_neg w]
/-- what the course reckons is what the notes give one by one -/
theorem ky_eq {V : pV} {n nn : Nat} {B : Nat → Int32} (hn : n ≤ 7) (hV : ∀ k, k < nn → dayP (V 6 k) n) : ∀ d, d ≤ n → kyL V (noN V nn) B d = orN (ntV V (ktV V nn B n) d) nn := by
  have h7 : ∀ i, i < nn → dayP (V 6 i) 7 := fun i hi => ⟨(hV i hi).1, Int.lt_of_lt_of_le (hV i hi).2 (by omega)⟩
  intro d
  induction d with
  | zero =>
    intro _
    have : ∀ k, orN (ntV V (ktV V nn B n) 0) k = 0 := by
      intro k
      induction k with
      | zero => rfl
      | succ k ih =>
        have z : ntV V (ktV V nn B n) 0 k = 0 := by unfold ntV; exact if_neg (fun z => absurd z.1 (Nat.not_lt_zero _))
        show orN (ntV V (ktV V nn B n) 0) k ||| ntV V (ktV V nn B n) 0 k = 0
        rw [ih, z, Int32.or_zero]
    exact (this nn).symm
  | succ d ih =>
    intro hd
    rw [ky_step (by omega) nn h7, ← ih (by omega)]
    have e : ktV V nn B n d = B d ||| if rdB V d then kyL V (noN V nn) B d else 0 := by
      rw [ktV_n (by omega), ih (by omega)]
      rfl
    rw [e]
    rfl
theorem kyF_eq {V : pV} {n nn : Nat} {B : Nat → Int32} (hn : n ≤ 7) (hV : ∀ k, k < nn → dayP (V 6 k) n) {d : Nat} (hd : d < n) : kyF V (noN V nn) B d = rdV V nn (ktV V nn B n) d := by
  unfold kyF rdV
  rw [ky_eq hn hV d (by omega)]
theorem kyK_eq {V : pV} {n nn : Nat} {B : Nat → Int32} (hn : n ≤ 7) (hV : ∀ k, k < nn → dayP (V 6 k) n) {d : Nat} (hd : d < n) : kyK V (noN V nn) B d = ktV V nn B n d := by
  unfold kyK
  rw [kyF_eq hn hV hd, ktV_n hd]
theorem kyL_congr {V : pV} {N N' B B' : Nat → Int32} : ∀ d, (∀ e, e < d → N' e = N e ∧ B' e = B e) → kyL V N' B' d = kyL V N B d := by
  intro d
  induction d with
  | zero => intro _; rfl
  | succ d ih =>
    intro h
    have h1 := ih (fun e he => h e (by omega))
    obtain ⟨h2, h3⟩ := h d (by omega)
    show (if wrB V d = true then kyL V N' B' d ||| (N' d &&& (B' d ||| if rdB V d then kyL V N' B' d else 0)) else kyL V N' B' d) = (if wrB V d = true then kyL V N B d ||| (N d &&& (B d ||| if rdB V d then kyL V N B d else 0)) else kyL V N B d)
    rw [h1, h2, h3]
theorem kyK_congr {V : pV} {N N' B B' : Nat → Int32} {d : Nat} (h : ∀ e, e < d + 1 → N' e = N e ∧ B' e = B e) : kyK V N' B' d = kyK V N B d := by
  unfold kyK kyF
  rw [kyL_congr d (fun e he => h e (by omega)), (h d (by omega)).2]
