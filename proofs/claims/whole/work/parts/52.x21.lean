/-! the class: what the course says of its order -/
/-- no pair is of a day with itself -/
def stD (s : pS) : Prop := ∀ k, k < s.2.2.2.1 → ¬ s.1 8 k = s.1 9 k
theorem plX_ps {n : Nat} {p : Nat → Nat} {I : fdI} (hp : isP p n) (h : plX n p I) {d : Nat} (hd : d < n) : I 59 d = nI (ps p n d) := by
  obtain ⟨z1, z2⟩ := ps_lt hp hd
  have := h _ z1
  rw [z2] at this
  exact this
theorem c_X2_keepsTold (s : pS) (α : Nat → Nat) (I : fdI) (L : fdL) {p : Nat → Nat} (hs : stOk s) (hD : stD s) (hx : xSt 8 s I) (hp : isP p s.2.1) (hd : I 57 0 = nI s.2.1) (hpl : plX s.2.1 p I) : Con fd_SX α yX2_keepsTold mX2_keepsTold [.ref (α 57), .ref (α 8)] I L (fd_is (some (.int (fd_b (tlB s.1 s.2.1 s.2.2.2.1 p = true)))) I L) := by
  refine Con.of (by decide) rfl (Nat.le_of_ble_eq_true rfl) ?_
  have hn7 := hs.n7
  have hn6 := hs.num.2.1
  have no : tlB s.1 s.2.1 s.2.2.2.1 p = false → (0 : Int32) = fd_b (tlB s.1 s.2.1 s.2.2.2.1 p = true) := fun h => (fd_b_f (fun q => by rw [h] at q; cases q)).symm
  have l2 : anB (tlP s.1 s.2.1 p) s.2.2.2.1 = true → ∀ k, k ≤ s.2.1 → anB (tlA s.1 s.2.1 p) k = true → Rn fd_SX α mX2_keepsTold 45 [(2, .int (nI k)), (0, .ref (α 57)), (1, .ref (α 8))] [] I L (fd_is (some (.int (fd_b (tlB s.1 s.2.1 s.2.2.2.1 p = true)))) I L) := by
    intro hP
    refine fd_down (fun k hk ih => ?_)
    intro hA
    by_cases hx2 : k = s.2.1
    · have ht : tlB s.1 s.2.1 s.2.2.2.1 p = true := by rw [hx2] at hA; unfold tlB; rw [hP, hA]; rfl
      refine r_iload_n dX2_keepsTold_45 rfl ?_
      refine r_aload_n dX2_keepsTold_46 rfl ?_
      refine r_getV rfl rfl fl_2_49 dX2_keepsTold_47 hd ?_
      refine r_icmp_ge 86 dX2_keepsTold_50 (by decide) (fun h50 => ?_) (fun h50 => absurd h50 (not_not_intro (by rw [hx2]; exact Int32.le_refl _)))
      refine r_iconst (v := 1) dX2_keepsTold_86 rfl ?_
      refine r_zret rfl (by decide) dX2_keepsTold_87 ?_
      exact fd_isi (fd_b_t ht).symm rfl rfl
    · have hk7 : k < s.2.1 := by omega
      have e4 := (hx.kind hk7).2.2.2.1
      have ep := plX_ps hp hpl hk7
      by_cases h1 : s.1 4 k = -1
      · have hA2 : anB (tlA s.1 s.2.1 p) (k + 1) = true := by unfold anB; rw [hA]; unfold tlA; rw [h1]; rfl
        refine r_iload_n dX2_keepsTold_45 rfl ?_
        refine r_aload_n dX2_keepsTold_46 rfl ?_
        refine r_getV rfl rfl fl_2_49 dX2_keepsTold_47 hd ?_
        refine r_icmp_ge 86 dX2_keepsTold_50 (by decide) (fun h50 => absurd h50 (fun q => absurd ((nI_leI (by omega) (by omega)).mp q) (by omega))) (fun h50 => ?_)
        refine r_aload_n dX2_keepsTold_53 rfl ?_
        refine r_getR rfl rfl fl_2_109 dX2_keepsTold_54 ?_
        refine r_iload_n dX2_keepsTold_57 rfl ?_
        refine r_ialdN rfl dX2_keepsTold_58 (by omega) (by omega) e4 ?_
        refine r_iconst (v := (-1)) dX2_keepsTold_59 rfl ?_
        refine r_icmp_eq 80 dX2_keepsTold_60 (by decide) (fun h60 => ?_) (fun h60 => absurd h60 (not_not_intro h1))
        refine r_iinc (v := _ + 1) (lv' := [(2, _), (0, _), (1, _)]) dX2_keepsTold_80 rfl rfl (Nat.le_of_ble_eq_true rfl) rfl ?_
        refine r_goto (tgt := 45) dX2_keepsTold_83 (by decide) ?_
        rw [nI_1]
        exact r_keep [2, 0, 1] rfl (ih hk7 hA2)
      · by_cases h2 : s.1 4 k = nI (ps p s.2.1 k)
        · have hA2 : anB (tlA s.1 s.2.1 p) (k + 1) = true := by
            show (_ && tlA s.1 s.2.1 p k) = true
            rw [hA]
            unfold tlA
            rw [decide_eq_true h2, Bool.or_true]
            rfl
          refine r_iload_n dX2_keepsTold_45 rfl ?_
          refine r_aload_n dX2_keepsTold_46 rfl ?_
          refine r_getV rfl rfl fl_2_49 dX2_keepsTold_47 hd ?_
          refine r_icmp_ge 86 dX2_keepsTold_50 (by decide) (fun h50 => absurd h50 (fun q => absurd ((nI_leI (by omega) (by omega)).mp q) (by omega))) (fun h50 => ?_)
          refine r_aload_n dX2_keepsTold_53 rfl ?_
          refine r_getR rfl rfl fl_2_109 dX2_keepsTold_54 ?_
          refine r_iload_n dX2_keepsTold_57 rfl ?_
          refine r_ialdN rfl dX2_keepsTold_58 (by omega) (by omega) e4 ?_
          refine r_iconst (v := (-1)) dX2_keepsTold_59 rfl ?_
          refine r_icmp_eq 80 dX2_keepsTold_60 (by decide) (fun h60 => absurd h60 h1) (fun h60 => ?_)
          refine r_aload_n dX2_keepsTold_63 rfl ?_
          refine r_getR rfl rfl fl_2_109 dX2_keepsTold_64 ?_
          refine r_iload_n dX2_keepsTold_67 rfl ?_
          refine r_ialdN rfl dX2_keepsTold_68 (by omega) (by omega) e4 ?_
          refine r_aload_n dX2_keepsTold_69 rfl ?_
          refine r_getR rfl rfl fl_2_15 dX2_keepsTold_70 ?_
          refine r_iload_n dX2_keepsTold_73 rfl ?_
          refine r_ialdN rfl dX2_keepsTold_74 (by omega) (by omega) ep ?_
          refine r_icmp_eq 80 dX2_keepsTold_75 (by decide) (fun h75 => ?_) (fun h75 => absurd h75 (not_not_intro h2))
          refine r_iinc (v := _ + 1) (lv' := [(2, _), (0, _), (1, _)]) dX2_keepsTold_80 rfl rfl (Nat.le_of_ble_eq_true rfl) rfl ?_
          refine r_goto (tgt := 45) dX2_keepsTold_83 (by decide) ?_
          rw [nI_1]
          exact r_keep [2, 0, 1] rfl (ih hk7 hA2)
        · have hF : tlB s.1 s.2.1 s.2.2.2.1 p = false := by
            unfold tlB
            rw [hP, Bool.true_and]
            refine Bool.eq_false_iff.mpr fun q => ?_
            have := anB_iff.mp q k hk7
            unfold tlA at this
            rw [decide_eq_false h1, decide_eq_false h2] at this
            cases this
          refine r_iload_n dX2_keepsTold_45 rfl ?_
          refine r_aload_n dX2_keepsTold_46 rfl ?_
          refine r_getV rfl rfl fl_2_49 dX2_keepsTold_47 hd ?_
          refine r_icmp_ge 86 dX2_keepsTold_50 (by decide) (fun h50 => absurd h50 (fun q => absurd ((nI_leI (by omega) (by omega)).mp q) (by omega))) (fun h50 => ?_)
          refine r_aload_n dX2_keepsTold_53 rfl ?_
          refine r_getR rfl rfl fl_2_109 dX2_keepsTold_54 ?_
          refine r_iload_n dX2_keepsTold_57 rfl ?_
          refine r_ialdN rfl dX2_keepsTold_58 (by omega) (by omega) e4 ?_
          refine r_iconst (v := (-1)) dX2_keepsTold_59 rfl ?_
          refine r_icmp_eq 80 dX2_keepsTold_60 (by decide) (fun h60 => absurd h60 h1) (fun h60 => ?_)
          refine r_aload_n dX2_keepsTold_63 rfl ?_
          refine r_getR rfl rfl fl_2_109 dX2_keepsTold_64 ?_
          refine r_iload_n dX2_keepsTold_67 rfl ?_
          refine r_ialdN rfl dX2_keepsTold_68 (by omega) (by omega) e4 ?_
          refine r_aload_n dX2_keepsTold_69 rfl ?_
          refine r_getR rfl rfl fl_2_15 dX2_keepsTold_70 ?_
          refine r_iload_n dX2_keepsTold_73 rfl ?_
          refine r_ialdN rfl dX2_keepsTold_74 (by omega) (by omega) ep ?_
          refine r_icmp_eq 80 dX2_keepsTold_75 (by decide) (fun h75 => absurd h75 h2) (fun h75 => ?_)
          refine r_iconst (v := 0) dX2_keepsTold_78 rfl ?_
          refine r_zret rfl (by decide) dX2_keepsTold_79 ?_
          exact fd_isi (no hF) rfl rfl
  have l1 : ∀ k, k ≤ s.2.2.2.1 → anB (tlP s.1 s.2.1 p) k = true → Rn fd_SX α mX2_keepsTold 2 [(2, .int (nI k)), (0, .ref (α 57)), (1, .ref (α 8))] [] I L (fd_is (some (.int (fd_b (tlB s.1 s.2.1 s.2.2.2.1 p = true)))) I L) := by
    refine fd_down (fun k hk ih => ?_)
    intro hA
    by_cases hx2 : k = s.2.2.2.1
    · refine r_iload_n dX2_keepsTold_2 rfl ?_
      refine r_aload_n dX2_keepsTold_3 rfl ?_
      refine r_getV rfl rfl fl_2_100 dX2_keepsTold_4 hx.num.2.1 ?_
      refine r_icmp_ge 43 dX2_keepsTold_7 (by decide) (fun h7 => ?_) (fun h7 => absurd h7 (not_not_intro (by rw [hx2]; exact Int32.le_refl _)))
      refine r_iconst (v := 0) dX2_keepsTold_43 rfl ?_
      refine r_istore_n (lv' := [(2, _), (0, _), (1, _)]) dX2_keepsTold_44 (Nat.le_of_ble_eq_true rfl) rfl ?_
      exact r_keep [2, 0, 1] rfl (l2 (by rw [← hx2]; exact hA) 0 (by omega) rfl)
    · have hk6 : k < s.2.2.2.1 := by omega
      have e8 : I 16 k = s.1 8 k := (hx.agr.2.2.1 k hk6).1
      have e9 : I 17 k = s.1 9 k := (hx.agr.2.2.1 k hk6).2
      obtain ⟨a, ha, ea⟩ := dayP_nI (hs.v.2.2.1 k hk6).1
      obtain ⟨b, hb, eb⟩ := dayP_nI (hs.v.2.2.1 k hk6).2
      have hab : a ≠ b := fun q => hD k hk6 (by rw [ea, eb, q])
      obtain ⟨la, pa⟩ := ps_lt hp ha
      obtain ⟨lb, pb⟩ := ps_lt hp hb
      have tk : tlP s.1 s.2.1 p k = Nat.ble (ps p s.2.1 a + 1) (ps p s.2.1 b) := by unfold tlP; rw [ea, eb, nI_clamp (by omega), nI_clamp (by omega)]
      by_cases h1 : ps p s.2.1 a < ps p s.2.1 b
      · have hA2 : anB (tlP s.1 s.2.1 p) (k + 1) = true := by
          show (_ && tlP s.1 s.2.1 p k) = true
          rw [hA, tk, Nat.ble_eq_true_of_le h1]
          rfl
        refine r_iload_n dX2_keepsTold_2 rfl ?_
        refine r_aload_n dX2_keepsTold_3 rfl ?_
        refine r_getV rfl rfl fl_2_100 dX2_keepsTold_4 hx.num.2.1 ?_
        refine r_icmp_ge 43 dX2_keepsTold_7 (by decide) (fun h7 => absurd h7 (fun q => absurd ((nI_leI (by omega) (by omega)).mp q) (by omega))) (fun h7 => ?_)
        refine r_aload_n dX2_keepsTold_10 rfl ?_
        refine r_getR rfl rfl fl_2_15 dX2_keepsTold_11 ?_
        refine r_aload_n dX2_keepsTold_14 rfl ?_
        refine r_getR rfl rfl fl_2_103 dX2_keepsTold_15 ?_
        refine r_iload_n dX2_keepsTold_18 rfl ?_
        refine r_ialdN rfl dX2_keepsTold_19 (by omega) (by omega) (e8.trans ea) ?_
        refine r_ialdN rfl dX2_keepsTold_20 (by omega) (by omega) (plX_ps hp hpl ha) ?_
        refine r_aload_n dX2_keepsTold_21 rfl ?_
        refine r_getR rfl rfl fl_2_15 dX2_keepsTold_22 ?_
        refine r_aload_n dX2_keepsTold_25 rfl ?_
        refine r_getR rfl rfl fl_2_106 dX2_keepsTold_26 ?_
        refine r_iload_n dX2_keepsTold_29 rfl ?_
        refine r_ialdN rfl dX2_keepsTold_30 (by omega) (by omega) (e9.trans eb) ?_
        refine r_ialdN rfl dX2_keepsTold_31 (by omega) (by omega) (plX_ps hp hpl hb) ?_
        refine r_icmp_le 37 dX2_keepsTold_32 (by decide) (fun h32 => ?_) (fun h32 => absurd h32 (not_not_intro ((nI_leI (by omega) (by omega)).mpr (by omega))))
        refine r_iinc (v := _ + 1) (lv' := [(2, _), (0, _), (1, _)]) dX2_keepsTold_37 rfl rfl (Nat.le_of_ble_eq_true rfl) rfl ?_
        refine r_goto (tgt := 2) dX2_keepsTold_40 (by decide) ?_
        rw [nI_1]
        exact r_keep [2, 0, 1] rfl (ih hk6 hA2)
      · have hne : ps p s.2.1 a ≠ ps p s.2.1 b := fun q => hab (by rw [← pa, ← pb, q])
        have hF : tlB s.1 s.2.1 s.2.2.2.1 p = false := by
          unfold tlB
          refine Bool.eq_false_iff.mpr fun q => ?_
          rw [Bool.and_eq_true] at q
          have := anB_iff.mp q.1 k hk6
          rw [tk] at this
          exact h1 (Nat.le_of_ble_eq_true this)
        refine r_iload_n dX2_keepsTold_2 rfl ?_
        refine r_aload_n dX2_keepsTold_3 rfl ?_
        refine r_getV rfl rfl fl_2_100 dX2_keepsTold_4 hx.num.2.1 ?_
        refine r_icmp_ge 43 dX2_keepsTold_7 (by decide) (fun h7 => absurd h7 (fun q => absurd ((nI_leI (by omega) (by omega)).mp q) (by omega))) (fun h7 => ?_)
        refine r_aload_n dX2_keepsTold_10 rfl ?_
        refine r_getR rfl rfl fl_2_15 dX2_keepsTold_11 ?_
        refine r_aload_n dX2_keepsTold_14 rfl ?_
        refine r_getR rfl rfl fl_2_103 dX2_keepsTold_15 ?_
        refine r_iload_n dX2_keepsTold_18 rfl ?_
        refine r_ialdN rfl dX2_keepsTold_19 (by omega) (by omega) (e8.trans ea) ?_
        refine r_ialdN rfl dX2_keepsTold_20 (by omega) (by omega) (plX_ps hp hpl ha) ?_
        refine r_aload_n dX2_keepsTold_21 rfl ?_
        refine r_getR rfl rfl fl_2_15 dX2_keepsTold_22 ?_
        refine r_aload_n dX2_keepsTold_25 rfl ?_
        refine r_getR rfl rfl fl_2_106 dX2_keepsTold_26 ?_
        refine r_iload_n dX2_keepsTold_29 rfl ?_
        refine r_ialdN rfl dX2_keepsTold_30 (by omega) (by omega) (e9.trans eb) ?_
        refine r_ialdN rfl dX2_keepsTold_31 (by omega) (by omega) (plX_ps hp hpl hb) ?_
        refine r_icmp_le 37 dX2_keepsTold_32 (by decide) (fun h32 => absurd h32 (fun q => absurd ((nI_leI (by omega) (by omega)).mp q) (by omega))) (fun h32 => ?_)
        refine r_iconst (v := 0) dX2_keepsTold_35 rfl ?_
        refine r_zret rfl (by decide) dX2_keepsTold_36 ?_
        exact fd_isi (no hF) rfl rfl
  refine r_iconst (v := 0) dX2_keepsTold_0 rfl ?_
  refine r_istore_n (lv' := [(2, _), (0, _), (1, _)]) dX2_keepsTold_1 (Nat.le_of_ble_eq_true rfl) rfl ?_
  exact r_keep [2, 0, 1] rfl (l1 0 (by omega) rfl)
theorem c_X2_fitsDiary (s : pS) (α : Nat → Nat) (I : fdI) (L : fdL) {p : Nat → Nat} (hs : stOk s) (hx : xSt 8 s I) (hp : isP p s.2.1) (hd : I 57 0 = nI s.2.1) (ho : orX s.2.1 p I) (hl : lvX s.1 s.2.1 s.2.2.1 p I) : Con fd_SX α yX2_fitsDiary mX2_fitsDiary [.ref (α 57), .ref (α 13)] I L (fd_is (some (.int (fd_b (anB (dyB s.1 s.2.1 s.2.2.1 p) s.2.1 = true)))) I L) := by
  refine Con.of (by decide) rfl (Nat.le_of_ble_eq_true rfl) ?_
  have hn7 := hs.n7
  have l2 : ∀ k, k ≤ s.2.1 → anB (dyB s.1 s.2.1 s.2.2.1 p) k = true → Rn fd_SX α mX2_fitsDiary 2 [(2, .int (nI k)), (0, .ref (α 57)), (1, .ref (α 13))] [] I L (fd_is (some (.int (fd_b (anB (dyB s.1 s.2.1 s.2.2.1 p) s.2.1 = true)))) I L) := by
    refine fd_down (fun k hk ih => ?_)
    intro hA
    by_cases hx2 : k = s.2.1
    · have ht : anB (dyB s.1 s.2.1 s.2.2.1 p) s.2.1 = true := by rw [hx2] at hA; exact hA
      refine r_iload_n dX2_fitsDiary_2 rfl ?_
      refine r_aload_n dX2_fitsDiary_3 rfl ?_
      refine r_getV rfl rfl fl_2_49 dX2_fitsDiary_4 hd ?_
      refine r_icmp_ge 42 dX2_fitsDiary_7 (by decide) (fun h7 => ?_) (fun h7 => absurd h7 (not_not_intro (by rw [hx2]; exact Int32.le_refl _)))
      refine r_iconst (v := 1) dX2_fitsDiary_42 rfl ?_
      refine r_zret rfl (by decide) dX2_fitsDiary_43 ?_
      exact fd_isi (fd_b_t ht).symm rfl rfl
    · have hk7 : k < s.2.1 := by omega
      have hpk := hp.1 k hk7
      have e5 := (hx.kind hk7).2.2.2.2
      have eo := ho k hk7
      have ek := (hl _ hpk).2.2
      by_cases h1 : s.1 5 k = -1
      · have hA2 : anB (dyB s.1 s.2.1 s.2.2.1 p) (k + 1) = true := by unfold anB; rw [hA]; unfold dyB; rw [h1]; rfl
        refine r_iload_n dX2_fitsDiary_2 rfl ?_
        refine r_aload_n dX2_fitsDiary_3 rfl ?_
        refine r_getV rfl rfl fl_2_49 dX2_fitsDiary_4 hd ?_
        refine r_icmp_ge 42 dX2_fitsDiary_7 (by decide) (fun h7 => absurd h7 (fun q => absurd ((nI_leI (by omega) (by omega)).mp q) (by omega))) (fun h7 => ?_)
        refine r_aload_n dX2_fitsDiary_10 rfl ?_
        refine r_iload_n dX2_fitsDiary_11 rfl ?_
        refine r_ialdN rfl dX2_fitsDiary_12 (by omega) (by omega) e5 ?_
        refine r_iconst (v := (-1)) dX2_fitsDiary_13 rfl ?_
        refine r_icmp_eq 36 dX2_fitsDiary_14 (by decide) (fun h14 => ?_) (fun h14 => absurd h14 (not_not_intro h1))
        refine r_iinc (v := _ + 1) (lv' := [(2, _), (0, _), (1, _)]) dX2_fitsDiary_36 rfl rfl (Nat.le_of_ble_eq_true rfl) rfl ?_
        refine r_goto (tgt := 2) dX2_fitsDiary_39 (by decide) ?_
        rw [nI_1]
        exact r_keep [2, 0, 1] rfl (ih hk7 hA2)
      · by_cases h2 : knV s.1 s.2.1 s.2.2.1 p (p k) = s.1 5 k
        · have hA2 : anB (dyB s.1 s.2.1 s.2.2.1 p) (k + 1) = true := by
            show (_ && dyB s.1 s.2.1 s.2.2.1 p k) = true
            rw [hA]
            unfold dyB
            rw [decide_eq_true h2, Bool.or_true]
            rfl
          refine r_iload_n dX2_fitsDiary_2 rfl ?_
          refine r_aload_n dX2_fitsDiary_3 rfl ?_
          refine r_getV rfl rfl fl_2_49 dX2_fitsDiary_4 hd ?_
          refine r_icmp_ge 42 dX2_fitsDiary_7 (by decide) (fun h7 => absurd h7 (fun q => absurd ((nI_leI (by omega) (by omega)).mp q) (by omega))) (fun h7 => ?_)
          refine r_aload_n dX2_fitsDiary_10 rfl ?_
          refine r_iload_n dX2_fitsDiary_11 rfl ?_
          refine r_ialdN rfl dX2_fitsDiary_12 (by omega) (by omega) e5 ?_
          refine r_iconst (v := (-1)) dX2_fitsDiary_13 rfl ?_
          refine r_icmp_eq 36 dX2_fitsDiary_14 (by decide) (fun h14 => absurd h14 h1) (fun h14 => ?_)
          refine r_aload_n dX2_fitsDiary_17 rfl ?_
          refine r_iload_n dX2_fitsDiary_18 rfl ?_
          refine r_ialdN rfl dX2_fitsDiary_19 (by omega) (by omega) e5 ?_
          refine r_aload_n dX2_fitsDiary_20 rfl ?_
          refine r_getR rfl rfl fl_2_40 dX2_fitsDiary_21 ?_
          refine r_aload_n dX2_fitsDiary_24 rfl ?_
          refine r_getR rfl rfl fl_2_9 dX2_fitsDiary_25 ?_
          refine r_iload_n dX2_fitsDiary_28 rfl ?_
          refine r_ialdN rfl dX2_fitsDiary_29 (by omega) (by omega) eo ?_
          refine r_ialdN rfl dX2_fitsDiary_30 (by omega) (by omega) ek ?_
          refine r_icmp_eq 36 dX2_fitsDiary_31 (by decide) (fun h31 => ?_) (fun h31 => absurd h31 (not_not_intro h2.symm))
          refine r_iinc (v := _ + 1) (lv' := [(2, _), (0, _), (1, _)]) dX2_fitsDiary_36 rfl rfl (Nat.le_of_ble_eq_true rfl) rfl ?_
          refine r_goto (tgt := 2) dX2_fitsDiary_39 (by decide) ?_
          rw [nI_1]
          exact r_keep [2, 0, 1] rfl (ih hk7 hA2)
        · have hF : ¬ anB (dyB s.1 s.2.1 s.2.2.1 p) s.2.1 = true := by
            intro q
            have := anB_iff.mp q k hk7
            unfold dyB at this
            rw [decide_eq_false h1, decide_eq_false h2] at this
            cases this
          refine r_iload_n dX2_fitsDiary_2 rfl ?_
          refine r_aload_n dX2_fitsDiary_3 rfl ?_
          refine r_getV rfl rfl fl_2_49 dX2_fitsDiary_4 hd ?_
          refine r_icmp_ge 42 dX2_fitsDiary_7 (by decide) (fun h7 => absurd h7 (fun q => absurd ((nI_leI (by omega) (by omega)).mp q) (by omega))) (fun h7 => ?_)
          refine r_aload_n dX2_fitsDiary_10 rfl ?_
          refine r_iload_n dX2_fitsDiary_11 rfl ?_
          refine r_ialdN rfl dX2_fitsDiary_12 (by omega) (by omega) e5 ?_
          refine r_iconst (v := (-1)) dX2_fitsDiary_13 rfl ?_
          refine r_icmp_eq 36 dX2_fitsDiary_14 (by decide) (fun h14 => absurd h14 h1) (fun h14 => ?_)
          refine r_aload_n dX2_fitsDiary_17 rfl ?_
          refine r_iload_n dX2_fitsDiary_18 rfl ?_
          refine r_ialdN rfl dX2_fitsDiary_19 (by omega) (by omega) e5 ?_
          refine r_aload_n dX2_fitsDiary_20 rfl ?_
          refine r_getR rfl rfl fl_2_40 dX2_fitsDiary_21 ?_
          refine r_aload_n dX2_fitsDiary_24 rfl ?_
          refine r_getR rfl rfl fl_2_9 dX2_fitsDiary_25 ?_
          refine r_iload_n dX2_fitsDiary_28 rfl ?_
          refine r_ialdN rfl dX2_fitsDiary_29 (by omega) (by omega) eo ?_
          refine r_ialdN rfl dX2_fitsDiary_30 (by omega) (by omega) ek ?_
          refine r_icmp_eq 36 dX2_fitsDiary_31 (by decide) (fun h31 => absurd h31 (fun q => h2 q.symm)) (fun h31 => ?_)
          refine r_iconst (v := 0) dX2_fitsDiary_34 rfl ?_
          refine r_zret rfl (by decide) dX2_fitsDiary_35 ?_
          exact fd_isi (fd_b_f hF).symm rfl rfl
  refine r_iconst (v := 0) dX2_fitsDiary_0 rfl ?_
  refine r_istore_n (lv' := [(2, _), (0, _), (1, _)]) dX2_fitsDiary_1 (Nat.le_of_ble_eq_true rfl) rfl ?_
  exact r_keep [2, 0, 1] rfl (l2 0 (by omega) rfl)
theorem c_X2_firstFailing (V : pV) (K : Nat → Int32) (α : Nat → Nat) (I : fdI) (L : fdL) {n : Nat} {N : Nat → Int32} {p : Nat → Nat} (hn7 : 1 ≤ n ∧ n ≤ 7) (hp : isP p n) (h : lkC V n N I) (ho : orX n p I) (hk : ∀ d, d < n → I 67 d = K d) : Con fd_SX α yX2_firstFailing mX2_firstFailing [.ref (α 57)] I L (fd_is (some (.int (fiA (fun k => wlB V K (p k)) p n 0))) I L) := by
  refine Con.of (by decide) rfl (Nat.le_of_ble_eq_true rfl) ?_
  have loop : ∀ m k, k + m = n → fiA (fun k => wlB V K (p k)) p m k = fiA (fun k => wlB V K (p k)) p n 0 → Rn fd_SX α mX2_firstFailing 2 [(1, .int (nI k)), (0, .ref (α 57))] [] I L (fd_is (some (.int (fiA (fun k => wlB V K (p k)) p n 0))) I L) := by
    intro m
    induction m with
    | zero =>
      intro k hk2 he
      have : k = n := by omega
      subst this
      refine r_iload_n dX2_firstFailing_2 rfl ?_
      refine r_aload_n dX2_firstFailing_3 rfl ?_
      refine r_getV rfl rfl fl_2_49 dX2_firstFailing_4 h.1 ?_
      refine r_icmp_ge 36 dX2_firstFailing_7 (by decide) (fun h7 => ?_) (fun h7 => absurd h7 (not_not_intro (Int32.le_refl _)))
      refine r_iconst (v := (-1)) dX2_firstFailing_36 rfl ?_
      refine r_iret rfl dX2_firstFailing_37 ?_
      exact fd_isi he rfl rfl
    | succ m ih =>
      intro k hk2 he
      have hkn : k < n := by omega
      have hpk := hp.1 k hkn
      have e1 := (h.2 (p k) hpk).2.2.2.1
      have e2 := hk (p k) hpk
      by_cases hw : akV V (p k) &&& (K (p k) ^^^ -1) = 0
      · have he2 : fiA (fun k => wlB V K (p k)) p m (k + 1) = fiA (fun k => wlB V K (p k)) p n 0 := by
          rw [← he]
          exact (if_pos (show wlB V K (p k) = true from decide_eq_true hw)).symm
        refine r_iload_n dX2_firstFailing_2 rfl ?_
        refine r_aload_n dX2_firstFailing_3 rfl ?_
        refine r_getV rfl rfl fl_2_49 dX2_firstFailing_4 h.1 ?_
        refine r_icmp_ge 36 dX2_firstFailing_7 (by decide) (fun h7 => absurd h7 (fun q => absurd ((nI_leI (by omega) (by omega)).mp q) (by omega))) (fun h7 => ?_)
        refine r_aload_n dX2_firstFailing_10 rfl ?_
        refine r_aload_n dX2_firstFailing_11 rfl ?_
        refine r_getR rfl rfl fl_2_9 dX2_firstFailing_12 ?_
        refine r_iload_n dX2_firstFailing_15 rfl ?_
        refine r_ialdN rfl dX2_firstFailing_16 (by omega) (by omega) (ho k hkn) ?_
        refine r_cVr (As := [_]) (c_X2_lacking α _ _ (p k) (by omega)) lk_2_97 rfl rfl (by decide) (by decide) rfl rfl (Nat.le_of_ble_eq_true rfl) dX2_firstFailing_17 ?_
        rw [e1, e2]
        refine r_if_eq 30 dX2_firstFailing_20 (by decide) (fun h20 => ?_) (fun h20 => absurd h20 (not_not_intro hw))
        refine r_iinc (v := _ + 1) (lv' := [(1, _), (0, _)]) dX2_firstFailing_30 rfl rfl (Nat.le_of_ble_eq_true rfl) rfl ?_
        refine r_goto (tgt := 2) dX2_firstFailing_33 (by decide) ?_
        rw [nI_1]
        exact r_keep [1, 0] rfl (ih (k + 1) (by omega) he2)
      · have he2 : nI (p k) = fiA (fun k => wlB V K (p k)) p n 0 := by
          rw [← he]
          exact (if_neg (show ¬ wlB V K (p k) = true from fun z => hw (of_decide_eq_true z))).symm
        refine r_iload_n dX2_firstFailing_2 rfl ?_
        refine r_aload_n dX2_firstFailing_3 rfl ?_
        refine r_getV rfl rfl fl_2_49 dX2_firstFailing_4 h.1 ?_
        refine r_icmp_ge 36 dX2_firstFailing_7 (by decide) (fun h7 => absurd h7 (fun q => absurd ((nI_leI (by omega) (by omega)).mp q) (by omega))) (fun h7 => ?_)
        refine r_aload_n dX2_firstFailing_10 rfl ?_
        refine r_aload_n dX2_firstFailing_11 rfl ?_
        refine r_getR rfl rfl fl_2_9 dX2_firstFailing_12 ?_
        refine r_iload_n dX2_firstFailing_15 rfl ?_
        refine r_ialdN rfl dX2_firstFailing_16 (by omega) (by omega) (ho k hkn) ?_
        refine r_cVr (As := [_]) (c_X2_lacking α _ _ (p k) (by omega)) lk_2_97 rfl rfl (by decide) (by decide) rfl rfl (Nat.le_of_ble_eq_true rfl) dX2_firstFailing_17 ?_
        rw [e1, e2]
        refine r_if_eq 30 dX2_firstFailing_20 (by decide) (fun h20 => absurd h20 hw) (fun h20 => ?_)
        refine r_aload_n dX2_firstFailing_23 rfl ?_
        refine r_getR rfl rfl fl_2_9 dX2_firstFailing_24 ?_
        refine r_iload_n dX2_firstFailing_27 rfl ?_
        refine r_ialdN rfl dX2_firstFailing_28 (by omega) (by omega) (ho k hkn) ?_
        refine r_iret rfl dX2_firstFailing_29 ?_
        exact fd_isi he2 rfl rfl
  refine r_iconst (v := 0) dX2_firstFailing_0 rfl ?_
  refine r_istore_n (lv' := [(1, _), (0, _)]) dX2_firstFailing_1 (Nat.le_of_ble_eq_true rfl) rfl ?_
  exact r_keep [1, 0] rfl (loop n 0 (by omega) rfl)
theorem c_X2_learntAmong (V : pV) (α : Nat → Nat) (I : fdI) (L : fdL) (l : Nat) {n : Nat} {N : Nat → Int32} {p : Nat → Nat} (hn7 : 1 ≤ n ∧ n ≤ 7) (hl : l ≤ n) (hp : isP p n) (h : lkC V n N I) (ho : orX n p I) : Con fd_SX α yX2_learntAmong mX2_learntAmong [.ref (α 57), .int (nI l)] I L (fd_is (some (.int (ahV V p l))) I L) := by
  refine Con.of (by decide) rfl (Nat.le_of_ble_eq_true rfl) ?_
  have loop : ∀ k, k ≤ l → Rn fd_SX α mX2_learntAmong 4 [(3, .int (nI k)), (2, .int (ahV V p k)), (0, .ref (α 57)), (1, .int (nI l))] [] I L (fd_is (some (.int (ahV V p l))) I L) := by
    refine fd_down (fun k hk' ih => ?_)
    by_cases hx : k = l
    · subst hx
      refine r_iload_n dX2_learntAmong_4 rfl ?_
      refine r_iload_n dX2_learntAmong_5 rfl ?_
      refine r_icmp_ge 29 dX2_learntAmong_6 (by decide) (fun h6 => ?_) (fun h6 => absurd h6 (not_not_intro (Int32.le_refl _)))
      refine r_iload_n dX2_learntAmong_29 rfl ?_
      refine r_iret rfl dX2_learntAmong_30 ?_
      exact fd_isI rfl rfl rfl
    · have hpk := hp.1 k (by omega)
      have e1 := (h.2 (p k) hpk).2.2.1
      refine r_iload_n dX2_learntAmong_4 rfl ?_
      refine r_iload_n dX2_learntAmong_5 rfl ?_
      refine r_icmp_ge 29 dX2_learntAmong_6 (by decide) (fun h6 => absurd h6 (fun q => absurd ((nI_leI (by omega) (by omega)).mp q) (by omega))) (fun h6 => ?_)
      refine r_iload_n dX2_learntAmong_9 rfl ?_
      refine r_aload_n dX2_learntAmong_10 rfl ?_
      refine r_getR rfl rfl fl_2_25 dX2_learntAmong_11 ?_
      refine r_aload_n dX2_learntAmong_14 rfl ?_
      refine r_getR rfl rfl fl_2_9 dX2_learntAmong_15 ?_
      refine r_iload_n dX2_learntAmong_18 rfl ?_
      refine r_ialdN rfl dX2_learntAmong_19 (by omega) (by omega) (ho k (by omega)) ?_
      refine r_ialdN rfl dX2_learntAmong_20 (by omega) (by omega) e1 ?_
      refine r_ior dX2_learntAmong_21 ?_
      refine r_istore_n (lv' := [(2, _), (3, _), (0, _), (1, _)]) dX2_learntAmong_22 (Nat.le_of_ble_eq_true rfl) rfl ?_
      refine r_iinc (v := _ + 1) (lv' := [(3, _), (2, _), (0, _), (1, _)]) dX2_learntAmong_23 rfl rfl (Nat.le_of_ble_eq_true rfl) rfl ?_
      refine r_goto (tgt := 4) dX2_learntAmong_26 (by decide) ?_
      rw [nI_1]
      exact r_keep [3, 2, 0, 1] rfl (ih (by omega))
  refine r_iconst (v := 0) dX2_learntAmong_0 rfl ?_
  refine r_istore_n (lv' := [(2, _), (0, _), (1, _)]) dX2_learntAmong_1 (Nat.le_of_ble_eq_true rfl) rfl ?_
  refine r_iconst (v := 0) dX2_learntAmong_2 rfl ?_
  refine r_istore_n (lv' := [(3, _), (2, _), (0, _), (1, _)]) dX2_learntAmong_3 (Nat.le_of_ble_eq_true rfl) rfl ?_
  exact r_keep [3, 2, 0, 1] rfl (loop 0 (by omega))
/-- the days ahead of d -/
def heV (p : Nat → Nat) (n d : Nat) : Int32 := orN (fun k => 1 <<< (nI (p k) &&& 31)) (ps p n d)
theorem c_X2_daysAheadOf (α : Nat → Nat) (I : fdI) (L : fdL) (d : Nat) {n : Nat} {p : Nat → Nat} (hn7 : 1 ≤ n ∧ n ≤ 7) (hd : d < n) (hp : isP p n) (ho : orX n p I) (hpl : plX n p I) : Con fd_SX α yX2_daysAheadOf mX2_daysAheadOf [.ref (α 57), .int (nI d)] I L (fd_is (some (.int (heV p n d))) I L) := by
  refine Con.of (by decide) rfl (Nat.le_of_ble_eq_true rfl) ?_
  have hlt := (ps_lt hp hd).1
  have ep := plX_ps hp hpl hd
  have loop : ∀ k, k ≤ ps p n d → Rn fd_SX α mX2_daysAheadOf 4 [(3, .int (nI k)), (2, .int (orN (fun k => 1 <<< (nI (p k) &&& 31)) k)), (0, .ref (α 57)), (1, .int (nI d))] [] I L (fd_is (some (.int (heV p n d))) I L) := by
    refine fd_down (fun k hk' ih => ?_)
    by_cases hx : k = ps p n d
    · refine r_iload_n dX2_daysAheadOf_4 rfl ?_
      refine r_aload_n dX2_daysAheadOf_5 rfl ?_
      refine r_getR rfl rfl fl_2_15 dX2_daysAheadOf_6 ?_
      refine r_iload_n dX2_daysAheadOf_9 rfl ?_
      refine r_ialdN rfl dX2_daysAheadOf_10 (by omega) (by omega) ep ?_
      refine r_icmp_ge 31 dX2_daysAheadOf_11 (by decide) (fun h11 => ?_) (fun h11 => absurd h11 (not_not_intro (by rw [hx]; exact Int32.le_refl _)))
      refine r_iload_n dX2_daysAheadOf_31 rfl ?_
      refine r_iret rfl dX2_daysAheadOf_32 ?_
      exact fd_isi (by rw [hx]; rfl) rfl rfl
    · have hpk := hp.1 k (by omega)
      refine r_iload_n dX2_daysAheadOf_4 rfl ?_
      refine r_aload_n dX2_daysAheadOf_5 rfl ?_
      refine r_getR rfl rfl fl_2_15 dX2_daysAheadOf_6 ?_
      refine r_iload_n dX2_daysAheadOf_9 rfl ?_
      refine r_ialdN rfl dX2_daysAheadOf_10 (by omega) (by omega) ep ?_
      refine r_icmp_ge 31 dX2_daysAheadOf_11 (by decide) (fun h11 => absurd h11 (fun q => absurd ((nI_leI (by omega) (by omega)).mp q) (by omega))) (fun h11 => ?_)
      refine r_iload_n dX2_daysAheadOf_14 rfl ?_
      refine r_iconst (v := 1) dX2_daysAheadOf_15 rfl ?_
      refine r_aload_n dX2_daysAheadOf_16 rfl ?_
      refine r_getR rfl rfl fl_2_9 dX2_daysAheadOf_17 ?_
      refine r_iload_n dX2_daysAheadOf_20 rfl ?_
      refine r_ialdN rfl dX2_daysAheadOf_21 (by omega) (by omega) (ho k (by omega)) ?_
      refine r_ishl dX2_daysAheadOf_22 ?_
      refine r_ior dX2_daysAheadOf_23 ?_
      refine r_istore_n (lv' := [(2, _), (3, _), (0, _), (1, _)]) dX2_daysAheadOf_24 (Nat.le_of_ble_eq_true rfl) rfl ?_
      refine r_iinc (v := _ + 1) (lv' := [(3, _), (2, _), (0, _), (1, _)]) dX2_daysAheadOf_25 rfl rfl (Nat.le_of_ble_eq_true rfl) rfl ?_
      refine r_goto (tgt := 4) dX2_daysAheadOf_28 (by decide) ?_
      rw [nI_1]
      exact r_keep [3, 2, 0, 1] rfl (ih (by omega))
  refine r_iconst (v := 0) dX2_daysAheadOf_0 rfl ?_
  refine r_istore_n (lv' := [(2, _), (0, _), (1, _)]) dX2_daysAheadOf_1 (Nat.le_of_ble_eq_true rfl) rfl ?_
  refine r_iconst (v := 0) dX2_daysAheadOf_2 rfl ?_
  refine r_istore_n (lv' := [(3, _), (2, _), (0, _), (1, _)]) dX2_daysAheadOf_3 (Nat.le_of_ble_eq_true rfl) rfl ?_
  exact r_keep [3, 2, 0, 1] rfl (loop 0 (by omega))
