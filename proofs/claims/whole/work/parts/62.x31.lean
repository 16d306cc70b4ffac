/-! the class: notes -/
def fiP (s : pS) (p : Nat → Nat) (I : fdI) (L : fdL) (I' : fdI) (L' : fdL) : Prop := L' = L ∧ (∀ a, a < 57 ∨ a = 76 → I' a = I a) ∧ I' 68 0 = ntA (fwV s.1 s.2.1 s.2.2.1 s.2.2.2.2.1 p) 0 ∧ I' 68 1 = ntA (fwV s.1 s.2.1 s.2.2.1 s.2.2.2.2.1 p) 1 ∧ I' 68 2 = ntA (fwV s.1 s.2.1 s.2.2.1 s.2.2.2.2.1 p) 2
theorem c_X6_find (s : pS) (α : Nat → Nat) (I : fdI) (L : fdL) {p : Nat → Nat} (hs : stOk s) (hx : xSt 8 s I) (hp : isP p s.2.1) (hc : crX s.1 s.2.1 s.2.2.1 p I) (hl : lvX s.1 s.2.1 s.2.2.1 p I) : Con fd_SX α yX6_find mX6_find [.ref (α 68), .ref (α 8), .ref (α 57)] I L (fd_vp (fiP s p I L)) := by
  refine Con.of (by decide) rfl (Nat.le_of_ble_eq_true rfl) ?_
  have hn7 := hs.n7
  have hnt := hs.num.2.2.1
  have hnn := hs.num.1
  have hV := hs.v.2.1
  have hA : awB s.1 s.2.1 s.2.2.1 s.2.2.2.2.1 p = awN s.1 s.2.1 (noN s.1 s.2.2.1) p s.2.2.2.2.1 := awB_awN hn7.2 hs.nd
  have fwN : awN s.1 s.2.1 (noN s.1 s.2.2.1) p s.2.2.2.2.1 = false → fwV s.1 s.2.1 s.2.2.1 s.2.2.2.2.1 p = if fw1 s.1 s.2.1 s.2.2.1 s.2.2.2.2.1 p 70 0 = -1 then fwB s.1 s.2.1 s.2.2.1 s.2.2.2.2.1 p 70 0 else fw1 s.1 s.2.1 s.2.2.1 s.2.2.2.2.1 p 70 0 := by
    intro h
    unfold fwV
    rw [hA, if_neg (by rw [h]; decide)]
  have tail : awN s.1 s.2.1 (noN s.1 s.2.2.1) p s.2.2.2.2.1 = false → (s.2.2.1 + 1 ≤ 6 → ∀ c, c < 6 * s.2.1 → w1N s.1 s.2.1 s.2.2.1 s.2.2.2.2.1 p c = false) → ∀ I1 : fdI, (∀ a, a < 57 ∨ a = 76 → I1 a = I a) → lkX s.1 s.2.1 s.2.2.1 I1 → (∃ q, isP q s.2.1 ∧ orX s.2.1 q I1) → srX s.1 s.2.1 s.2.2.2.2.1 p I1 → I1 68 0 = -1 → I1 68 1 = -1 → I1 68 2 = -1 → Rn fd_SX α mX6_find 64 [(0, .ref (α 68)), (1, .ref (α 8)), (2, .ref (α 57))] [] I1 L (fd_vp (fiP s p I L)) := by
    intro h0 h1 I1 g1 l1 ⟨q, hq, o1⟩ r1 v0 v1 v2
    have x1 : xSt 8 s I1 := hx.same (fun a _ a2 => g1 a (by omega))
    have e1 : fw1 s.1 s.2.1 s.2.2.1 s.2.2.2.2.1 p 70 0 = -1 := fw1_not hn7.2 hV h0 h1
    have eV : fwV s.1 s.2.1 s.2.2.1 s.2.2.2.2.1 p = fwB s.1 s.2.1 s.2.2.1 s.2.2.2.2.1 p 70 0 := by rw [fwN h0, if_pos e1]
    by_cases h6 : s.2.2.1 + 2 ≤ 6
    · refine r_aload_n dX6_find_64 rfl ?_
      refine r_getV rfl rfl fl_6_34 dX6_find_65 x1.num.1 ?_
      refine r_iconst (v := 2) dX6_find_68 rfl ?_
      refine r_iadd dX6_find_69 ?_
      rw [show nI s.2.2.1 + 2 = nI (s.2.2.1 + 2) from nI_add _ 2]
      refine r_bipush (v := 6) dX6_find_70 rfl ?_
      refine r_icmp_gt 88 dX6_find_72 (by decide) (fun h72 => absurd h72 (fun q => absurd ((nI_ltI (a := 6) (by decide) (by omega)).mp q) (by omega))) (fun h72 => ?_)
      refine r_aload_n dX6_find_75 rfl ?_
      refine r_aload_n dX6_find_76 rfl ?_
      refine r_cVp (As := [_]) (c_X6_findTwo s.1 α _ _ hn7 hnt l1 hq o1 r1) lk_6_42 rfl rfl (by decide) (by decide) rfl rfl (Nat.le_of_ble_eq_true rfl) dX6_find_77 (fun v77 I77 L77 q77 => ?_)
      obtain ⟨rfl, f77, q77⟩ := q77
      rcases q77 with ⟨rfl, a, b, hab, hb, hw, hw1, hw2, e68⟩ | ⟨rfl, hw, e68⟩
      · have ha7 := nmC_70 (c := a) (by omega)
        have hb7 := nmC_70 (c := b) (by omega)
        have eB := fwB_yes hn7.2 h6 hV (h1 (by omega)) hab hb hw hw1 hw2
        obtain ⟨t0, t1, t2⟩ := ntA_at (x := nmC a) (y := nmC b) (by omega) (by omega)
        rw [if_neg (by omega), if_neg (by omega)] at t0
        rw [if_neg (by omega)] at t1 t2
        refine r_if_eq 88 dX6_find_80 (by decide) (fun h80 => absurd h80 (by decide)) (fun h80 => ?_)
        refine r_aload_n dX6_find_83 rfl ?_
        refine r_iconst (v := 2) dX6_find_84 rfl ?_
        refine r_putI rfl rfl fl_6_20 fw_6_0 dX6_find_85 ?_
        refine r_vret rfl dX6_find_88 ?_
        refine ⟨rfl, rfl, fun x hx => ?_, ?_, ?_, ?_⟩
        · rw [fd_up_cell (by omega), f77 x (by omega) (by omega) (by omega)]; exact g1 x hx
        · rw [fd_up_same, eV, eB, t0]; decide
        · rw [fd_up_pl (by decide), e68, fd_up_pl (by decide), fd_up_same, eV, eB, t1]
        · rw [fd_up_pl (by decide), e68, fd_up_same, eV, eB, t2]
      · have eB := fwB_not hn7.2 hV (fun _ => h1 (by omega)) (fun _ => hw)
        refine r_if_eq 88 dX6_find_80 (by decide) (fun h80 => ?_) (fun h80 => absurd rfl h80)
        refine r_vret rfl dX6_find_88 ?_
        refine ⟨rfl, rfl, fun x hx => ?_, ?_, ?_, ?_⟩
        · rw [f77 x (by omega) (by omega) (by omega)]; exact g1 x hx
        · rw [e68, v0, eV, eB]; rfl
        · rw [e68, v1, eV, eB]; rfl
        · rw [e68, v2, eV, eB]; rfl
    · have eB := fwB_not hn7.2 hV (nt := s.2.2.2.2.1) (p := p) (fun z => absurd z h6) (fun z => absurd z h6)
      refine r_aload_n dX6_find_64 rfl ?_
      refine r_getV rfl rfl fl_6_34 dX6_find_65 x1.num.1 ?_
      refine r_iconst (v := 2) dX6_find_68 rfl ?_
      refine r_iadd dX6_find_69 ?_
      rw [show nI s.2.2.1 + 2 = nI (s.2.2.1 + 2) from nI_add _ 2]
      refine r_bipush (v := 6) dX6_find_70 rfl ?_
      refine r_icmp_gt 88 dX6_find_72 (by decide) (fun h72 => ?_) (fun h72 => absurd h72 (not_not_intro ((nI_ltI (a := 6) (by decide) (by omega)).mpr (by omega))))
      refine r_vret rfl dX6_find_88 ?_
      refine ⟨rfl, rfl, g1, ?_, ?_, ?_⟩
      · rw [v0, eV, eB]; rfl
      · rw [v1, eV, eB]; rfl
      · rw [v2, eV, eB]; rfl
  refine r_aload_n dX6_find_0 rfl ?_
  refine r_aload_n dX6_find_1 rfl ?_
  refine r_aload_n dX6_find_2 rfl ?_
  refine r_cVq (As := [_, _]) (c_X6_keepRows s α _ _ hs hx hp hc hl) lk_6_16 rfl rfl (by decide) (by decide) rfl rfl (Nat.le_of_ble_eq_true rfl) dX6_find_3 (fun I3 L3 q3 => ?_)
  obtain ⟨rfl, f3, l3, ⟨q, hq, o3⟩, r3⟩ := q3
  have x3 : xSt 8 s I3 := hx.same (fun a _ a2 => f3 a (by omega))
  refine r_aload_n dX6_find_6 rfl ?_
  refine r_iconst (v := (-1)) dX6_find_7 rfl ?_
  refine r_putI rfl rfl fl_6_20 fw_6_0 dX6_find_8 ?_
  refine r_aload_n dX6_find_11 rfl ?_
  refine r_iconst (v := (-1)) dX6_find_12 rfl ?_
  refine r_putI rfl rfl fl_6_24 fw_6_1 dX6_find_13 ?_
  refine r_aload_n dX6_find_16 rfl ?_
  refine r_iconst (v := (-1)) dX6_find_17 rfl ?_
  refine r_putI rfl rfl fl_6_27 fw_6_2 dX6_find_18 ?_
  generalize hJ : fd_up (fd_up (fd_up I3 68 0 (-1)) 68 1 (-1)) 68 2 (-1) = J
  have jf : ∀ a, a ≠ 68 → J a = I3 a := fun a ha => by rw [← hJ, fd_up_cell ha, fd_up_cell ha, fd_up_cell ha]
  have j0 : J 68 0 = -1 := by rw [← hJ]; rfl
  have j1 : J 68 1 = -1 := by rw [← hJ]; rfl
  have j2 : J 68 2 = -1 := by rw [← hJ]; rfl
  have j3 : J 68 3 = I3 68 3 := by rw [← hJ]; rfl
  have lJ : lkX s.1 s.2.1 s.2.2.1 J := l3.same (fun a ha => jf a (by omega))
  have oJ : orX s.2.1 q J := fun k hk => by rw [jf 58 (by decide)]; exact o3 k hk
  have rJ : srX s.1 s.2.1 s.2.2.2.2.1 p J := ⟨j3.trans r3.1, fun i hi d hd => by rw [jf (70 + i) (by omega)]; exact r3.2 i hi d hd⟩
  have gJ : ∀ a, a < 57 ∨ a = 76 → J a = I a := fun a ha => (jf a (by omega)).trans (f3 a ha)
  refine r_aload_n dX6_find_21 rfl ?_
  refine r_aload_n dX6_find_22 rfl ?_
  refine r_cVp (As := [_]) (c_X6_allWell s.1 (noN s.1 s.2.2.1) α _ _ hn7 hnt lJ hq oJ rJ) lk_6_30 rfl rfl (by decide) (by decide) rfl rfl (Nat.le_of_ble_eq_true rfl) dX6_find_23 (fun v23 I23 L23 q23 => ?_)
  obtain ⟨rfl, rfl, f23⟩ := q23
  have g23 : ∀ a, a < 57 ∨ a = 76 → I23 a = I a := fun a ha => (f23 a (by omega) (by omega)).trans (gJ a ha)
  have x23 : xSt 8 s I23 := hx.same (fun a _ a2 => g23 a (by omega))
  have l23 : lkX s.1 s.2.1 s.2.2.1 I23 := lJ.same (fun a ha => f23 a (by omega) (by omega))
  have o23 : orX s.2.1 q I23 := fun k hk => by rw [f23 58 (by decide) (by decide)]; exact oJ k hk
  have r23 : srX s.1 s.2.1 s.2.2.2.2.1 p I23 := fnF.sr rJ f23
  have e23 : I23 68 = J 68 := f23 68 (by decide) (by decide)
  cases hb : awN s.1 s.2.1 (noN s.1 s.2.2.1) p s.2.2.2.2.1 with
  | true =>
    have eV : fwV s.1 s.2.1 s.2.2.1 s.2.2.2.2.1 p = nI (100 * 99 + 99) := by unfold fwV; rw [hA, if_pos hb]; rfl
    obtain ⟨t0, t1, t2⟩ := ntA_at (x := 99) (y := 99) (by decide) (by decide)
    refine r_if_eq 37 dX6_find_26 (by decide) (fun h26 => absurd h26 (by decide)) (fun h26 => ?_)
    refine r_aload_n dX6_find_29 rfl ?_
    refine r_iconst (v := 0) dX6_find_30 rfl ?_
    refine r_putI rfl rfl fl_6_20 fw_6_0 dX6_find_31 ?_
    refine r_goto (tgt := 88) dX6_find_34 (by decide) ?_
    refine r_vret rfl dX6_find_88 ?_
    refine ⟨rfl, rfl, fun x hx => (fd_up_cell (by omega)).trans (g23 x hx), ?_, ?_, ?_⟩
    · rw [fd_up_same, eV, t0]; decide
    · rw [fd_up_pl (by decide), e23, j1, eV, t1]; rfl
    · rw [fd_up_pl (by decide), e23, j2, eV, t2]; rfl
  | false =>
    refine r_if_eq 37 dX6_find_26 (by decide) (fun h26 => ?_) (fun h26 => absurd (fd_b_f (show ¬ false = true by decide)) h26)
    refine r_aload_n dX6_find_37 rfl ?_
    refine r_getV rfl rfl fl_6_34 dX6_find_38 x23.num.1 ?_
    refine r_iconst (v := 1) dX6_find_41 rfl ?_
    refine r_iadd dX6_find_42 ?_
    rw [nI_1]
    refine r_bipush (v := 6) dX6_find_43 rfl ?_
    by_cases h6 : s.2.2.1 + 1 ≤ 6
    · refine r_icmp_gt 64 dX6_find_45 (by decide) (fun h45 => absurd ((nI_ltI (a := 6) (by decide) (by omega)).mp h45) (by omega)) (fun h45 => ?_)
      refine r_aload_n dX6_find_48 rfl ?_
      refine r_aload_n dX6_find_49 rfl ?_
      refine r_cVp (As := [_]) (c_X6_findOne s.1 α _ _ hn7 hnt l23 hq o23 r23) lk_6_39 rfl rfl (by decide) (by decide) rfl rfl (Nat.le_of_ble_eq_true rfl) dX6_find_50 (fun v50 I50 L50 q50 => ?_)
      obtain ⟨rfl, f50, q50⟩ := q50
      rcases q50 with ⟨rfl, r, hr, hw, hw1, e68⟩ | ⟨rfl, hw, e68⟩
      · have hr7 := nmC_70 (c := r) (by omega)
        have e1 := fw1_yes hn7.2 h6 hV hb hr hw hw1
        obtain ⟨t0, t1, t2⟩ := ntA_at (x := nmC r) (y := 99) (by omega) (by omega)
        rw [if_neg (by omega), if_pos rfl] at t0
        rw [if_neg (by omega)] at t1
        rw [if_pos rfl] at t2
        have eV : fwV s.1 s.2.1 s.2.2.1 s.2.2.2.2.1 p = nI (100 * nmC r + 99) := by rw [fwN hb, e1, if_neg (nI_n1 (by omega))]
        refine r_if_eq 64 dX6_find_53 (by decide) (fun h53 => absurd h53 (by decide)) (fun h53 => ?_)
        refine r_aload_n dX6_find_56 rfl ?_
        refine r_iconst (v := 1) dX6_find_57 rfl ?_
        refine r_putI rfl rfl fl_6_20 fw_6_0 dX6_find_58 ?_
        refine r_goto (tgt := 88) dX6_find_61 (by decide) ?_
        refine r_vret rfl dX6_find_88 ?_
        refine ⟨rfl, rfl, fun x hx => (fd_up_cell (by omega)).trans ((f50 x (by omega) (by omega) (by omega)).trans (g23 x hx)), ?_, ?_, ?_⟩
        · rw [fd_up_same, eV, t0]; decide
        · rw [fd_up_pl (by decide), e68, fd_up_same, eV, t1]
        · rw [fd_up_pl (by decide), e68, fd_up_pl (by decide), e23, j2, eV, t2]
      · refine r_if_eq 64 dX6_find_53 (by decide) (fun h53 => ?_) (fun h53 => absurd rfl h53)
        refine r_keep [0, 1, 2] rfl (tail hb (fun _ => hw) I50 (fun a ha => (f50 a (by omega) (by omega) (by omega)).trans (g23 a ha)) (l23.same (fun a ha => f50 a (by omega) (by omega) (by omega))) ⟨q, hq, fun k hk => by rw [f50 58 (by decide) (by decide) (by decide)]; exact o23 k hk⟩ ⟨by rw [e68]; exact r23.1, fun i hi d hd => by rw [f50 (70 + i) (by omega) (by omega) (by omega)]; exact r23.2 i hi d hd⟩ (by rw [e68, e23]; exact j0) (by rw [e68, e23]; exact j1) (by rw [e68, e23]; exact j2))
    · refine r_icmp_gt 64 dX6_find_45 (by decide) (fun h45 => ?_) (fun h45 => absurd ((nI_ltI (a := 6) (by decide) (by omega)).mpr (by omega)) h45)
      exact r_keep [0, 1, 2] rfl (tail hb (fun z => absurd z h6) I23 g23 l23 ⟨q, hq, o23⟩ r23 (by rw [e23]; exact j0) (by rw [e23]; exact j1) (by rw [e23]; exact j2))
def o_notes (s : pS) (w : Int32) : oT := if dayP w 3 then (ntA (fwV s.1 s.2.1 s.2.2.1 s.2.2.2.2.1 (prm s.2.1 s.2.2.2.2.2.1)) w, s, 3) else (-10, s, 0)
theorem c_X10_notes (s : pS) (α : Nat → Nat) (I : fdI) (L : fdL) (w : Int32) (hs : stOk s) (hx : xSt 8 s I) : Con fd_SX α yX10_notes mX10_notes [.ref (α 0), .int w] I L (fd_ip (xOut (o_notes s w) I L)) := by
  refine Con.of (by decide) rfl (Nat.le_of_ble_eq_true rfl) ?_
  unfold o_notes
  have hn7 := hs.n7
  have hP := prm_P hn7 hs.num.2.2.2.1
  by_cases hok : dayP w 3
  · rw [if_pos hok]
    have g1 : w ≤ 2 := le_of_dayP (m := 2) hok (by decide)
    obtain ⟨j, hj, rfl⟩ := dayP_nI hok
    have sc : ∀ I1 I2 : fdI, cfr I I1 → (∀ a, a < 57 ∨ a = 76 → I2 a = I1 a) → ∀ a, a < 57 ∨ a = 76 → I2 a = I a := fun I1 I2 f g a ha => (g a ha).trans (f a (by omega))
    rcases (show j = 0 ∨ j = 1 ∨ j = 2 by omega) with rfl | rfl | rfl
    · refine r_iload_n dX10_notes_0 rfl ?_
      refine r_if_lt 9 dX10_notes_1 (by decide) (fun h1 => absurd h1 (dayP_n0 hok)) (fun h1 => ?_)
      refine r_iload_n dX10_notes_4 rfl ?_
      refine r_iconst (v := 2) dX10_notes_5 rfl ?_
      refine r_icmp_le 16 dX10_notes_6 (by decide) (fun h6 => ?_) (fun h6 => absurd h6 (not_not_intro g1))
      refine r_aload_n dX10_notes_16 rfl ?_
      refine r_aload_n dX10_notes_17 rfl ?_
      refine r_getR rfl rfl fl_10_18 dX10_notes_18 ?_
      refine r_getV rfl rfl fl_10_148 dX10_notes_21 hx.num.2.2.2.1 ?_
      refine r_cVq (As := [_]) (c_X10_follow s α _ _ _ hs hx hs.num.2.2.2.1) lk_10_151 rfl rfl (by decide) (by decide) rfl rfl (Nat.le_of_ble_eq_true rfl) dX10_notes_24 (fun I24 L24 q24 => ?_)
      obtain ⟨rfl, f24, c24, l24⟩ := q24
      refine r_aload_n dX10_notes_27 rfl ?_
      refine r_getR rfl rfl fl_10_50 dX10_notes_28 ?_
      refine r_aload_n dX10_notes_31 rfl ?_
      refine r_getR rfl rfl fl_10_18 dX10_notes_32 ?_
      refine r_aload_n dX10_notes_35 rfl ?_
      refine r_getR rfl rfl fl_10_43 dX10_notes_36 ?_
      refine r_cVq (As := [_, _]) (c_X6_find s α _ _ hs (f24.st hx (by decide)) hP c24 l24) lk_10_192 rfl rfl (by decide) (by decide) rfl rfl (Nat.le_of_ble_eq_true rfl) dX10_notes_39 (fun I39 L39 q39 => ?_)
      obtain ⟨rfl, f39, v0, v1, v2⟩ := q39
      refine r_iload_n dX10_notes_42 rfl ?_
      refine r_if_ne 54 dX10_notes_43 (by decide) (fun h43 => absurd h43 (by decide)) (fun h43 => ?_)
      refine r_aload_n dX10_notes_46 rfl ?_
      refine r_getR rfl rfl fl_10_50 dX10_notes_47 ?_
      refine r_getV rfl rfl fl_10_196 dX10_notes_50 v0 ?_
      refine r_iret rfl dX10_notes_53 ?_
      exact ⟨_, rfl, xOut.scr hx (sc _ _ f24 f39)⟩
    · refine r_iload_n dX10_notes_0 rfl ?_
      refine r_if_lt 9 dX10_notes_1 (by decide) (fun h1 => absurd h1 (dayP_n0 hok)) (fun h1 => ?_)
      refine r_iload_n dX10_notes_4 rfl ?_
      refine r_iconst (v := 2) dX10_notes_5 rfl ?_
      refine r_icmp_le 16 dX10_notes_6 (by decide) (fun h6 => ?_) (fun h6 => absurd h6 (not_not_intro g1))
      refine r_aload_n dX10_notes_16 rfl ?_
      refine r_aload_n dX10_notes_17 rfl ?_
      refine r_getR rfl rfl fl_10_18 dX10_notes_18 ?_
      refine r_getV rfl rfl fl_10_148 dX10_notes_21 hx.num.2.2.2.1 ?_
      refine r_cVq (As := [_]) (c_X10_follow s α _ _ _ hs hx hs.num.2.2.2.1) lk_10_151 rfl rfl (by decide) (by decide) rfl rfl (Nat.le_of_ble_eq_true rfl) dX10_notes_24 (fun I24 L24 q24 => ?_)
      obtain ⟨rfl, f24, c24, l24⟩ := q24
      refine r_aload_n dX10_notes_27 rfl ?_
      refine r_getR rfl rfl fl_10_50 dX10_notes_28 ?_
      refine r_aload_n dX10_notes_31 rfl ?_
      refine r_getR rfl rfl fl_10_18 dX10_notes_32 ?_
      refine r_aload_n dX10_notes_35 rfl ?_
      refine r_getR rfl rfl fl_10_43 dX10_notes_36 ?_
      refine r_cVq (As := [_, _]) (c_X6_find s α _ _ hs (f24.st hx (by decide)) hP c24 l24) lk_10_192 rfl rfl (by decide) (by decide) rfl rfl (Nat.le_of_ble_eq_true rfl) dX10_notes_39 (fun I39 L39 q39 => ?_)
      obtain ⟨rfl, f39, v0, v1, v2⟩ := q39
      refine r_iload_n dX10_notes_42 rfl ?_
      refine r_if_ne 54 dX10_notes_43 (by decide) (fun h43 => ?_) (fun h43 => absurd h43 (by decide))
      refine r_iload_n dX10_notes_54 rfl ?_
      refine r_iconst (v := 1) dX10_notes_55 rfl ?_
      refine r_icmp_ne 69 dX10_notes_56 (by decide) (fun h56 => absurd h56 (by decide)) (fun h56 => ?_)
      refine r_aload_n dX10_notes_59 rfl ?_
      refine r_getR rfl rfl fl_10_50 dX10_notes_60 ?_
      refine r_getV rfl rfl fl_10_199 dX10_notes_63 v1 ?_
      refine r_goto (tgt := 76) dX10_notes_66 (by decide) ?_
      refine r_iret rfl dX10_notes_76 ?_
      exact ⟨_, rfl, xOut.scr hx (sc _ _ f24 f39)⟩
    · refine r_iload_n dX10_notes_0 rfl ?_
      refine r_if_lt 9 dX10_notes_1 (by decide) (fun h1 => absurd h1 (dayP_n0 hok)) (fun h1 => ?_)
      refine r_iload_n dX10_notes_4 rfl ?_
      refine r_iconst (v := 2) dX10_notes_5 rfl ?_
      refine r_icmp_le 16 dX10_notes_6 (by decide) (fun h6 => ?_) (fun h6 => absurd h6 (not_not_intro g1))
      refine r_aload_n dX10_notes_16 rfl ?_
      refine r_aload_n dX10_notes_17 rfl ?_
      refine r_getR rfl rfl fl_10_18 dX10_notes_18 ?_
      refine r_getV rfl rfl fl_10_148 dX10_notes_21 hx.num.2.2.2.1 ?_
      refine r_cVq (As := [_]) (c_X10_follow s α _ _ _ hs hx hs.num.2.2.2.1) lk_10_151 rfl rfl (by decide) (by decide) rfl rfl (Nat.le_of_ble_eq_true rfl) dX10_notes_24 (fun I24 L24 q24 => ?_)
      obtain ⟨rfl, f24, c24, l24⟩ := q24
      refine r_aload_n dX10_notes_27 rfl ?_
      refine r_getR rfl rfl fl_10_50 dX10_notes_28 ?_
      refine r_aload_n dX10_notes_31 rfl ?_
      refine r_getR rfl rfl fl_10_18 dX10_notes_32 ?_
      refine r_aload_n dX10_notes_35 rfl ?_
      refine r_getR rfl rfl fl_10_43 dX10_notes_36 ?_
      refine r_cVq (As := [_, _]) (c_X6_find s α _ _ hs (f24.st hx (by decide)) hP c24 l24) lk_10_192 rfl rfl (by decide) (by decide) rfl rfl (Nat.le_of_ble_eq_true rfl) dX10_notes_39 (fun I39 L39 q39 => ?_)
      obtain ⟨rfl, f39, v0, v1, v2⟩ := q39
      refine r_iload_n dX10_notes_42 rfl ?_
      refine r_if_ne 54 dX10_notes_43 (by decide) (fun h43 => ?_) (fun h43 => absurd h43 (by decide))
      refine r_iload_n dX10_notes_54 rfl ?_
      refine r_iconst (v := 1) dX10_notes_55 rfl ?_
      refine r_icmp_ne 69 dX10_notes_56 (by decide) (fun h56 => ?_) (fun h56 => absurd h56 (by decide))
      refine r_aload_n dX10_notes_69 rfl ?_
      refine r_getR rfl rfl fl_10_50 dX10_notes_70 ?_
      refine r_getV rfl rfl fl_10_202 dX10_notes_73 v2 ?_
      refine r_iret rfl dX10_notes_76 ?_
      exact ⟨_, rfl, xOut.scr hx (sc _ _ f24 f39)⟩
  · rw [if_neg hok]
    refine r_iload_n dX10_notes_0 rfl ?_
    refine r_if_lt 9 dX10_notes_1 (by decide) (fun h1 => ?_) (fun h1 => ?_)
    · refine r_aload_n dX10_notes_9 rfl ?_
      refine r_bipush (v := (-10)) dX10_notes_10 rfl ?_
      refine r_cVr (As := [_]) (c_X10_badAs α _ _ _) lk_10_111 rfl rfl (by decide) (by decide) rfl rfl (Nat.le_of_ble_eq_true rfl) dX10_notes_12 ?_
      refine r_iret rfl dX10_notes_15 ?_
      exact ⟨_, rfl, xOut.bad hx⟩
    · refine r_iload_n dX10_notes_4 rfl ?_
      refine r_iconst (v := 2) dX10_notes_5 rfl ?_
      refine r_icmp_le 16 dX10_notes_6 (by decide) (fun h6 => absurd h6 (fun q => hok (dayP_le (m := 2) (by decide) h1 q))) (fun h6 => ?_)
      refine r_aload_n dX10_notes_9 rfl ?_
      refine r_bipush (v := (-10)) dX10_notes_10 rfl ?_
      refine r_cVr (As := [_]) (c_X10_badAs α _ _ _) lk_10_111 rfl rfl (by decide) (by decide) rfl rfl (Nat.le_of_ble_eq_true rfl) dX10_notes_12 ?_
      refine r_iret rfl dX10_notes_15 ?_
      exact ⟨_, rfl, xOut.bad hx⟩
