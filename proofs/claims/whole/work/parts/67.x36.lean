/-! the class: an item of the text; its fault -/
section TKD
variable {T : Nat → Int32} {b s : Nat} {I : fdI}
theorem fgB_dg (h : fgB T b s = true) : dg T b s = true := by unfold fgB at h; rw [Bool.and_eq_true] at h; exact h.1
theorem tok_8 (h : tkD T b s I) (hf : fgB T b s = true) : I 54 6 = 8 ∧ I 54 4 = nI (s + 1) ∧ I 54 7 = T s - 48 := by
  have hlt := fgB_lt hf
  rcases h.2 with ⟨h1, _⟩ | ⟨_, h2, _⟩ | ⟨_, h2, h3, h4⟩ | ⟨_, h2, _⟩ | ⟨_, _, h2, _⟩
  · omega
  · rw [isL_dg (fgB_dg hf)] at h2; cases h2
  · exact ⟨h2, h3, h4⟩
  · have := fgB_dg hf
    rw [dg_59 h2] at this
    cases this
  · rw [hf] at h2; cases h2
theorem wdT_10 (hL : isL T s = true) : wdT T s (le T b s - s) 7 < 7 ∨ wdT T s (le T b s - s) 7 = 10 := by
  have h := (wd_rel (T := T) (s := s) (m := le T b s - s) (fun i hi => le_at (b := b) (s := s) (s + i) (by omega) (by omega))).1
  rcases h with h | h
  · exact Or.inl h.1
  · exact Or.inr h.1
theorem tok_n8 (h : tkD T b s I) (hf : fgB T b s = false) : ¬ I 54 6 = 8 := by
  intro q
  rcases h.2 with ⟨_, h1⟩ | ⟨_, hl, h1, _⟩ | ⟨h1, _⟩ | ⟨_, _, h1, _⟩ | ⟨_, _, _, _, h1⟩
  · rw [h1] at q; exact absurd q (by decide)
  · rw [h1] at q
    have q := (nI_eq (b := 8) (by rcases wdT_10 (b := b) hl with z | z <;> omega) (by decide)).mp q
    rcases wdT_10 (b := b) hl with z | z <;> omega
  · rw [h1] at hf; cases hf
  · rw [h1] at q; exact absurd q (by decide)
  · rw [h1] at q; exact absurd q (by decide)
theorem tok_9 (h : tkD T b s I) (h0 : s < b) (h59 : T s = 59) : I 54 6 = 9 ∧ I 54 4 = nI (s + 1) := by
  rcases h.2 with ⟨h1, _⟩ | ⟨_, h1, _⟩ | ⟨h1, _⟩ | ⟨_, _, h1, h2⟩ | ⟨_, _, _, h1, _⟩
  · omega
  · rw [isL_59 h59] at h1; cases h1
  · have := fgB_dg h1
    rw [dg_59 h59] at this
    cases this
  · exact ⟨h1, h2⟩
  · exact absurd h59 h1
theorem tok_n9 (h : tkD T b s I) (h0 : ¬ (s < b ∧ T s = 59)) : ¬ I 54 6 = 9 := by
  intro q
  rcases h.2 with ⟨_, h1⟩ | ⟨_, hl, h1, _⟩ | ⟨_, h1, _⟩ | ⟨h1, h2, _⟩ | ⟨_, _, _, _, h1⟩
  · rw [h1] at q; exact absurd q (by decide)
  · rw [h1] at q
    have q := (nI_eq (b := 9) (by rcases wdT_10 (b := b) hl with z | z <;> omega) (by decide)).mp q
    rcases wdT_10 (b := b) hl with z | z <;> omega
  · rw [h1] at q; exact absurd q (by decide)
  · exact h0 ⟨h1, h2⟩
  · rw [h1] at q; exact absurd q (by decide)
theorem tok_11 (h : tkD T b s I) : I 54 6 = 11 ↔ s = b := by
  rcases h.2 with ⟨h0, h1⟩ | ⟨h0, hl, h1, _⟩ | ⟨h0, h1, _⟩ | ⟨h0, h2, h1, _⟩ | ⟨h0, _, _, _, h1⟩
  · exact ⟨fun _ => h0, fun _ => h1⟩
  · refine ⟨fun q => ?_, fun q => by omega⟩
    rw [h1] at q
    have q := (nI_eq (b := 11) (by rcases wdT_10 (b := b) hl with z | z <;> omega) (by decide)).mp q
    rcases wdT_10 (b := b) hl with z | z <;> omega
  · have := fgB_lt h0
    exact ⟨fun q => by rw [h1] at q; exact absurd q (by decide), fun q => by omega⟩
  · exact ⟨fun q => by rw [h1] at q; exact absurd q (by decide), fun q => by omega⟩
  · exact ⟨fun q => by rw [h1] at q; exact absurd q (by decide), fun q => by omega⟩
end TKD
theorem itW_s {T : Nat → Int32} {b p : Nat} (h : isL T (sk T b p) = false ∨ sk T b p = b) : itW T b p = -1 := by
  have e : le T b (sk T b p) = sk T b p := by
    rcases h with h | h
    · exact le_no h
    · rw [h]; exact le_b
  unfold itW
  rw [e, Nat.sub_self]
  rfl
/-- the token ahead of an item: a word, or none -/
theorem itW_tok {T : Nat → Int32} {b p : Nat} {I : fdI} (h : tkD T b (sk T b p) I) : (∃ w, w < 7 ∧ I 54 6 = nI w ∧ itW T b p = nI w ∧ sk T b p < b ∧ I 54 4 = nI (le T b (sk T b p)) ∧ le T b (sk T b p) = sk T b p + fd_len.getD w 0) ∨ (itW T b p = -1 ∧ ∃ t, 7 ≤ t ∧ t ≤ 11 ∧ I 54 6 = nI t) := by
  rcases h.2 with ⟨h0, h1⟩ | ⟨h0, hl, h1, h2⟩ | ⟨h0, h1, _⟩ | ⟨h0, h2, h1, _⟩ | ⟨h0, hl, _, _, h1⟩
  · exact Or.inr ⟨itW_s (Or.inr h0), 11, by decide, by decide, h1⟩
  · have hr := wd_rel (T := T) (s := sk T b p) (m := le T b (sk T b p) - sk T b p) (fun i hi => le_at (b := b) (s := sk T b p) (sk T b p + i) (by omega) (by omega))
    have hle := le_le (T := T) (b := b) (s := sk T b p) (by omega)
    rcases hr.1 with ⟨r1, r2⟩ | ⟨r1, r2⟩
    · have := hr.2 r1
      exact Or.inl ⟨_, r1, h1, r2, h0, h2, by omega⟩
    · rw [r1] at h1
      exact Or.inr ⟨r2, 10, by decide, by decide, h1⟩
  · exact Or.inr ⟨itW_s (Or.inl (isL_dg (fgB_dg h0))), 8, by decide, by decide, h1⟩
  · exact Or.inr ⟨itW_s (Or.inl (isL_59 h2)), 9, by decide, by decide, h1⟩
  · exact Or.inr ⟨itW_s (Or.inl hl), 10, by decide, by decide, h1⟩
def itV (T : Nat → Int32) (b p : Nat) : Int32 := 100 * itW T b p + 10 * (T (itA T b p) - 48) + (if itW T b p = 0 then 0 else T (itB T b p) - 48)
def tiP (T : Nat → Int32) (b k p : Nat) (I : fdI) (L : fdL) (v : Value) (I' : fdI) (L' : fdL) : Prop := L' = L ∧ (∀ a, a ≠ 54 → a ≠ 55 → I' a = I a) ∧ I' 54 0 = I 54 0 ∧ (∀ x, x ≠ k → I' 55 x = I 55 x) ∧ ((itR T b k p).1 = true → v = .int 1 ∧ I' 54 1 = nI (k + 1) ∧ I' 54 4 = nI (itR T b k p).2 ∧ I' 55 k = itV T b p) ∧ ((itR T b k p).1 = false → v = .int 0 ∧ I' 54 1 = nI k ∧ I' 54 5 = nI (itR T b k p).2)
theorem nI_n0 {w : Nat} (hw : w < 2 ^ 31) : nI w = 0 ↔ w = 0 := nI_eq (b := 0) hw (by decide)
set_option maxHeartbeats 1000000 in
theorem c_X9_takeItem (T : Nat → Int32) (α : Nat → Nat) (I : fdI) (L : fdL) {b p k : Nat} (hb : b ≤ 150) (h : txX T b I) (hp : p ≤ b) (hD : tkD T b (sk T b p) I) (hk : I 54 1 = nI k) (hk30 : k ≤ 30) (hkw : sk T b p < b → k < 30) : Con fd_SX α yX9_takeItem mX9_takeItem [.ref (α 54)] I L (fd_ip (tiP T b k p I L)) := by
  refine Con.of (by decide) rfl (Nat.le_of_ble_eq_true rfl) ?_
  have hs0 := sk_le (T := T) hp
  have hle := le_le (T := T) hs0.2
  -- a fault
  have no : ∀ (x : Nat) (I1 : fdI), itR T b k p = (false, x) → tkF I I1 → I1 54 5 = nI x → fd_ip (tiP T b k p I L) (some (.int 0)) I1 L := by
    intro x I1 hR f1 g5
    refine ⟨_, rfl, rfl, fun a a1 _ => f1.1 a a1, f1.2 0 (by decide), fun y _ => by rw [f1.1 55 (by decide)], fun z => (by rw [hR] at z; cases z), fun _ => ⟨rfl, (f1.2 1 (by decide)).trans hk, by rw [hR]; exact g5⟩⟩
  -- a figure
  have fig : ∀ (q i f : Nat) (code bg : Int32) (I1 : fdI), i < f → f ≤ 2 → q ≤ b → tkF I I1 → I1 54 4 = nI q → (fgB T b (sk T b q) = true → ∀ I2 : fdI, tkF I I2 → I2 54 4 = nI (sk T b q + 1) → Rn fd_SX α mX9_takeItem 67 [(4, .int (nI (i + 1))), (2, .int (10 * code + (T (sk T b q) - 48))), (3, .int (nI f)), (1, .int bg), (0, .ref (α 54))] [] I2 L (fd_ip (tiP T b k p I L))) → (fgB T b (sk T b q) = false → itR T b k p = (false, sk T b q)) → Rn fd_SX α mX9_takeItem 67 [(4, .int (nI i)), (2, .int code), (3, .int (nI f)), (1, .int bg), (0, .ref (α 54))] [] I1 L (fd_ip (tiP T b k p I L)) := by
    intro q i f code bg I1 hif hf hq f1 g4 K1 K0
    cases hg : fgB T b (sk T b q) with
    | true =>
      refine r_iload dX9_takeItem_67 rfl ?_
      refine r_iload_n dX9_takeItem_69 rfl ?_
      refine r_icmp_ge 104 dX9_takeItem_70 (by decide) (fun h70 => absurd h70 (fun z => absurd ((nI_leI (by omega) (by omega)).mp z) (by omega))) (fun h70 => ?_)
      refine r_aload_n dX9_takeItem_73 rfl ?_
      refine r_cVq (As := []) (c_X9_nextToken T α _ _ hb (h.tk f1) hq g4) lk_9_29 rfl rfl (by decide) (by decide) rfl rfl (Nat.le_of_ble_eq_true rfl) dX9_takeItem_74 (fun I74 L74 q74 => ?_)
      obtain ⟨rfl, f74, d74⟩ := q74
      obtain ⟨t6, t4, t7⟩ := tok_8 d74 hg
      refine r_aload_n dX9_takeItem_77 rfl ?_
      refine r_getV rfl rfl fl_9_32 dX9_takeItem_78 t6 ?_
      refine r_bipush (v := 8) dX9_takeItem_81 rfl ?_
      refine r_icmp_eq 88 dX9_takeItem_83 (by decide) (fun h83 => ?_) (fun h83 => absurd h83 (not_not_intro rfl))
      refine r_bipush (v := 10) dX9_takeItem_88 rfl ?_
      refine r_iload_n dX9_takeItem_90 rfl ?_
      refine r_imul dX9_takeItem_91 ?_
      refine r_aload_n dX9_takeItem_92 rfl ?_
      refine r_getV rfl rfl fl_9_42 dX9_takeItem_93 t7 ?_
      refine r_iadd dX9_takeItem_96 ?_
      refine r_istore_n (lv' := [(2, _), (4, _), (3, _), (1, _), (0, _)]) dX9_takeItem_97 (Nat.le_of_ble_eq_true rfl) rfl ?_
      refine r_iinc (v := _ + 1) (lv' := [(4, _), (2, _), (3, _), (1, _), (0, _)]) dX9_takeItem_98 rfl rfl (Nat.le_of_ble_eq_true rfl) rfl ?_
      refine r_goto (tgt := 67) dX9_takeItem_101 (by decide) ?_
      rw [nI_1]
      exact r_keep [4, 2, 3, 1, 0] rfl (K1 hg _ (f1.trans f74) t4)
    | false =>
      refine r_iload dX9_takeItem_67 rfl ?_
      refine r_iload_n dX9_takeItem_69 rfl ?_
      refine r_icmp_ge 104 dX9_takeItem_70 (by decide) (fun h70 => absurd h70 (fun z => absurd ((nI_leI (by omega) (by omega)).mp z) (by omega))) (fun h70 => ?_)
      refine r_aload_n dX9_takeItem_73 rfl ?_
      refine r_cVq (As := []) (c_X9_nextToken T α _ _ hb (h.tk f1) hq g4) lk_9_29 rfl rfl (by decide) (by decide) rfl rfl (Nat.le_of_ble_eq_true rfl) dX9_takeItem_74 (fun I74 L74 q74 => ?_)
      obtain ⟨rfl, f74, d74⟩ := q74
      refine r_aload_n dX9_takeItem_77 rfl ?_
      refine r_getI rfl rfl fl_9_32 dX9_takeItem_78 ?_
      refine r_bipush (v := 8) dX9_takeItem_81 rfl ?_
      refine r_icmp_eq 88 dX9_takeItem_83 (by decide) (fun h83 => absurd h83 (tok_n8 d74 hg)) (fun h83 => ?_)
      refine r_iconst (v := 0) dX9_takeItem_86 rfl ?_
      refine r_zret rfl (by decide) dX9_takeItem_87 ?_
      exact no _ _ (K0 hg) (f1.trans f74) d74.1
  -- the end of an item
  have stp : ∀ (q f : Nat) (code : Int32) (bg : Nat) (I1 : fdI), f ≤ 2 → q ≤ b → tkF I I1 → I1 54 4 = nI q → itC T b p = sk T b q → bg ≤ 1 → (if bg = 0 then code else 10 * code) = itV T b p → (∀ r, (if itC T b p = b ∨ ¬ T (itC T b p) = 59 then (false, itC T b p) else (true, itC T b p + 1)) = r → itR T b k p = r) → k < 30 → Rn fd_SX α mX9_takeItem 67 [(4, .int (nI f)), (2, .int code), (3, .int (nI f)), (1, .int (nI bg)), (0, .ref (α 54))] [] I1 L (fd_ip (tiP T b k p I L)) := by
    intro q f code bg I1 hf hq f1 g4 hC hbg hcode hR hk29
    have hsq := sk_le (T := T) hq
    by_cases hst : itC T b p = b ∨ ¬ T (itC T b p) = 59
    · have hR := hR _ (if_pos hst)
      rw [hC] at hst hR
      refine r_iload dX9_takeItem_67 rfl ?_
      refine r_iload_n dX9_takeItem_69 rfl ?_
      refine r_icmp_ge 104 dX9_takeItem_70 (by decide) (fun h70 => ?_) (fun h70 => absurd h70 (not_not_intro (Int32.le_refl _)))
      refine r_aload_n dX9_takeItem_104 rfl ?_
      refine r_cVq (As := []) (c_X9_nextToken T α _ _ hb (h.tk f1) hq g4) lk_9_29 rfl rfl (by decide) (by decide) rfl rfl (Nat.le_of_ble_eq_true rfl) dX9_takeItem_105 (fun I105 L105 q105 => ?_)
      obtain ⟨rfl, f105, d105⟩ := q105
      refine r_aload_n dX9_takeItem_108 rfl ?_
      refine r_getI rfl rfl fl_9_32 dX9_takeItem_109 ?_
      refine r_bipush (v := 9) dX9_takeItem_112 rfl ?_
      refine r_icmp_eq 119 dX9_takeItem_114 (by decide) (fun h114 => absurd h114 (tok_n9 d105 (fun z => hst.elim (fun y => by omega) (fun y => y z.2)))) (fun h114 => ?_)
      refine r_iconst (v := 0) dX9_takeItem_117 rfl ?_
      refine r_zret rfl (by decide) dX9_takeItem_118 ?_
      exact no _ _ hR (f1.trans f105) d105.1
    · have hR := hR _ (if_neg hst)
      rw [hC] at hst hR
      have h1 : sk T b q < b := by
        have : ¬ sk T b q = b := fun z => hst (Or.inl z)
        omega
      have h59 : T (sk T b q) = 59 := Decidable.byContradiction fun z => hst (Or.inr z)
      rcases (show bg = 0 ∨ bg = 1 by omega) with rfl | rfl
      · rw [if_pos rfl] at hcode
        refine r_iload dX9_takeItem_67 rfl ?_
        refine r_iload_n dX9_takeItem_69 rfl ?_
        refine r_icmp_ge 104 dX9_takeItem_70 (by decide) (fun h70 => ?_) (fun h70 => absurd h70 (not_not_intro (Int32.le_refl _)))
        refine r_aload_n dX9_takeItem_104 rfl ?_
        refine r_cVq (As := []) (c_X9_nextToken T α _ _ hb (h.tk f1) hq g4) lk_9_29 rfl rfl (by decide) (by decide) rfl rfl (Nat.le_of_ble_eq_true rfl) dX9_takeItem_105 (fun I105 L105 q105 => ?_)
        obtain ⟨rfl, f105, d105⟩ := q105
        obtain ⟨t6, t4⟩ := tok_9 d105 h1 h59
        have ek : I105 54 1 = nI k := (f105.2 1 (by decide)).trans ((f1.2 1 (by decide)).trans hk)
        refine r_aload_n dX9_takeItem_108 rfl ?_
        refine r_getV rfl rfl fl_9_32 dX9_takeItem_109 t6 ?_
        refine r_bipush (v := 9) dX9_takeItem_112 rfl ?_
        refine r_icmp_eq 119 dX9_takeItem_114 (by decide) (fun h114 => ?_) (fun h114 => absurd h114 (not_not_intro rfl))
        refine r_aload_n dX9_takeItem_119 rfl ?_
        refine r_getR rfl rfl fl_9_18 dX9_takeItem_120 ?_
        refine r_aload_n dX9_takeItem_123 rfl ?_
        refine r_getV rfl rfl fl_9_15 dX9_takeItem_124 ek ?_
        refine r_iload_n dX9_takeItem_127 rfl ?_
        refine r_if_eq 138 dX9_takeItem_128 (by decide) (fun h128 => ?_) (fun h128 => absurd h128 (not_not_intro (by decide)))
        refine r_iload_n dX9_takeItem_138 rfl ?_
        refine r_iastN rfl dX9_takeItem_139 (by omega) (by omega) ?_
        refine r_aload_n dX9_takeItem_140 rfl ?_
        refine r_dup dX9_takeItem_141 rfl ?_
        refine r_getV rfl rfl fl_9_15 dX9_takeItem_142 ((fd_up_ne (by decide)).trans ek) ?_
        refine r_iconst (v := 1) dX9_takeItem_145 rfl ?_
        refine r_iadd dX9_takeItem_146 ?_
        rw [nI_1]
        refine r_putI rfl rfl fl_9_15 fw_9_1 dX9_takeItem_147 ?_
        refine r_iconst (v := 1) dX9_takeItem_150 rfl ?_
        refine r_zret rfl (by decide) dX9_takeItem_151 ?_
        have f3 := f1.trans f105
        refine ⟨_, rfl, rfl, fun a a1 a2 => by rw [fd_up_cell a1, fd_up_cell a2]; exact f3.1 a a1, by rw [fd_up_pl (by decide), fd_up_ne (by decide)]; exact f3.2 0 (by decide), fun y hy => by rw [fd_up_ne (by decide), fd_up_pl hy, f3.1 55 (by decide)], fun _ => ⟨rfl, fd_up_same, by rw [hR, fd_up_pl (by decide), fd_up_ne (by decide)]; exact t4, by rw [fd_up_ne (by decide), fd_up_same, hcode]⟩, fun z => (by rw [hR] at z; cases z)⟩
      · rw [if_neg (by decide)] at hcode
        refine r_iload dX9_takeItem_67 rfl ?_
        refine r_iload_n dX9_takeItem_69 rfl ?_
        refine r_icmp_ge 104 dX9_takeItem_70 (by decide) (fun h70 => ?_) (fun h70 => absurd h70 (not_not_intro (Int32.le_refl _)))
        refine r_aload_n dX9_takeItem_104 rfl ?_
        refine r_cVq (As := []) (c_X9_nextToken T α _ _ hb (h.tk f1) hq g4) lk_9_29 rfl rfl (by decide) (by decide) rfl rfl (Nat.le_of_ble_eq_true rfl) dX9_takeItem_105 (fun I105 L105 q105 => ?_)
        obtain ⟨rfl, f105, d105⟩ := q105
        obtain ⟨t6, t4⟩ := tok_9 d105 h1 h59
        have ek : I105 54 1 = nI k := (f105.2 1 (by decide)).trans ((f1.2 1 (by decide)).trans hk)
        refine r_aload_n dX9_takeItem_108 rfl ?_
        refine r_getV rfl rfl fl_9_32 dX9_takeItem_109 t6 ?_
        refine r_bipush (v := 9) dX9_takeItem_112 rfl ?_
        refine r_icmp_eq 119 dX9_takeItem_114 (by decide) (fun h114 => ?_) (fun h114 => absurd h114 (not_not_intro rfl))
        refine r_aload_n dX9_takeItem_119 rfl ?_
        refine r_getR rfl rfl fl_9_18 dX9_takeItem_120 ?_
        refine r_aload_n dX9_takeItem_123 rfl ?_
        refine r_getV rfl rfl fl_9_15 dX9_takeItem_124 ek ?_
        refine r_iload_n dX9_takeItem_127 rfl ?_
        refine r_if_eq 138 dX9_takeItem_128 (by decide) (fun h128 => absurd h128 (by decide)) (fun h128 => ?_)
        refine r_bipush (v := 10) dX9_takeItem_131 rfl ?_
        refine r_iload_n dX9_takeItem_133 rfl ?_
        refine r_imul dX9_takeItem_134 ?_
        refine r_goto (tgt := 139) dX9_takeItem_135 (by decide) ?_
        refine r_iastN rfl dX9_takeItem_139 (by omega) (by omega) ?_
        refine r_aload_n dX9_takeItem_140 rfl ?_
        refine r_dup dX9_takeItem_141 rfl ?_
        refine r_getV rfl rfl fl_9_15 dX9_takeItem_142 ((fd_up_ne (by decide)).trans ek) ?_
        refine r_iconst (v := 1) dX9_takeItem_145 rfl ?_
        refine r_iadd dX9_takeItem_146 ?_
        rw [nI_1]
        refine r_putI rfl rfl fl_9_15 fw_9_1 dX9_takeItem_147 ?_
        refine r_iconst (v := 1) dX9_takeItem_150 rfl ?_
        refine r_zret rfl (by decide) dX9_takeItem_151 ?_
        have f3 := f1.trans f105
        refine ⟨_, rfl, rfl, fun a a1 a2 => by rw [fd_up_cell a1, fd_up_cell a2]; exact f3.1 a a1, by rw [fd_up_pl (by decide), fd_up_ne (by decide)]; exact f3.2 0 (by decide), fun y hy => by rw [fd_up_ne (by decide), fd_up_pl hy, f3.1 55 (by decide)], fun _ => ⟨rfl, fd_up_same, by rw [hR, fd_up_pl (by decide), fd_up_ne (by decide)]; exact t4, by rw [fd_up_ne (by decide), fd_up_same, hcode]⟩, fun z => (by rw [hR] at z; cases z)⟩
  have hbad : (itW T b p = -1 ∨ ¬ (itW T b p = 0 ↔ k = 0)) → itR T b k p = (false, sk T b p) := fun hc => by unfold itR; rw [if_pos hc]
  by_cases hk0 : k = 0
  · have hk' : I 54 1 = 0 := by rw [hk, hk0]; rfl
    rcases itW_tok hD with ⟨w, hw, t6, eW, hsb, t4, _⟩ | ⟨eW, t, ht7, ht11, t6⟩
    · by_cases hw0 : w = 0
      · have eW0 : itW T b p = 0 := by rw [eW, hw0]; rfl
        have hc0 : ¬ (itW T b p = -1 ∨ ¬ (itW T b p = 0 ↔ k = 0)) := fun z => z.elim (fun y => by rw [eW0] at y; exact absurd y (by decide)) (fun y => y ⟨fun _ => hk0, fun _ => eW0⟩)
        have t60 : I 54 6 = 0 := by rw [t6, hw0]; rfl
        have hC : fgB T b (itA T b p) = true → itC T b p = sk T b (itA T b p + 1) := fun _ => by unfold itC; rw [if_pos eW0]
        refine r_aload_n dX9_takeItem_0 rfl ?_
        refine r_getV rfl rfl fl_9_15 dX9_takeItem_1 hk' ?_
        refine r_if_ne 11 dX9_takeItem_4 (by decide) (fun h4 => absurd h4 (not_not_intro rfl)) (fun h4 => ?_)
        refine r_iconst (v := 1) dX9_takeItem_7 rfl ?_
        refine r_goto (tgt := 12) dX9_takeItem_8 (by decide) ?_
        refine r_istore_n (lv' := [(1, _), (0, _)]) dX9_takeItem_12 (Nat.le_of_ble_eq_true rfl) rfl ?_
        refine r_aload_n dX9_takeItem_13 rfl ?_
        refine r_getV rfl rfl fl_9_32 dX9_takeItem_14 t60 ?_
        refine r_bipush (v := 7) dX9_takeItem_17 rfl ?_
        refine r_icmp_ge 47 dX9_takeItem_19 (by decide) (fun h19 => absurd h19 (by decide)) (fun h19 => ?_)
        refine r_iload_n dX9_takeItem_22 rfl ?_
        refine r_aload_n dX9_takeItem_23 rfl ?_
        refine r_getV rfl rfl fl_9_32 dX9_takeItem_24 t60 ?_
        refine r_if_ne 34 dX9_takeItem_27 (by decide) (fun h27 => absurd h27 (not_not_intro rfl)) (fun h27 => ?_)
        refine r_iconst (v := 1) dX9_takeItem_30 rfl ?_
        refine r_goto (tgt := 35) dX9_takeItem_31 (by decide) ?_
        refine r_icmp_ne 47 dX9_takeItem_35 (by decide) (fun h35 => absurd h35 (not_not_intro rfl)) (fun h35 => ?_)
        refine r_aload_n dX9_takeItem_38 rfl ?_
        refine r_getV rfl rfl fl_9_15 dX9_takeItem_39 hk' ?_
        refine r_bipush (v := 30) dX9_takeItem_42 rfl ?_
        refine r_icmp_lt 49 dX9_takeItem_44 (by decide) (fun h44 => ?_) (fun h44 => absurd h44 (not_not_intro (by decide)))
        refine r_aload_n dX9_takeItem_49 rfl ?_
        refine r_getV rfl rfl fl_9_32 dX9_takeItem_50 t60 ?_
        refine r_istore_n (lv' := [(2, _), (1, _), (0, _)]) dX9_takeItem_53 (Nat.le_of_ble_eq_true rfl) rfl ?_
        refine r_iload_n dX9_takeItem_54 rfl ?_
        refine r_if_eq 62 dX9_takeItem_55 (by decide) (fun h55 => absurd h55 (by decide)) (fun h55 => ?_)
        refine r_iconst (v := 1) dX9_takeItem_58 rfl ?_
        refine r_goto (tgt := 63) dX9_takeItem_59 (by decide) ?_
        refine r_istore_n (lv' := [(3, _), (2, _), (1, _), (0, _)]) dX9_takeItem_63 (Nat.le_of_ble_eq_true rfl) rfl ?_
        refine r_iconst (v := 0) dX9_takeItem_64 rfl ?_
        refine r_istore (lv' := [(4, _), (3, _), (2, _), (1, _), (0, _)]) dX9_takeItem_65 (Nat.le_of_ble_eq_true rfl) rfl ?_
        refine r_keep [4, 2, 3, 1, 0] rfl (fig (le T b (sk T b p)) 0 1 0 1 I (by decide) (by decide) hle.2 tkF.rfl' t4 (fun hg I2 f2 g4 => ?_) (fun hg => ?_))
        · have hA := fgB_lt hg
          refine stp (itA T b p + 1) 1 _ 1 I2 (by decide) hA f2 g4 (hC hg) (by decide) ?_ (fun r hr => ?_) (hkw hsb)
          · rw [if_neg (by decide)]
            unfold itV
            rw [eW0, if_pos rfl]
            show 10 * (10 * 0 + (T (itA T b p) - 48)) = 100 * 0 + 10 * (T (itA T b p) - 48) + 0
            rw [Int32.mul_zero, Int32.mul_zero, Int32.zero_add, Int32.zero_add, Int32.add_zero]
          · unfold itR
            rw [if_neg hc0, if_neg (by rw [show fgB T b (itA T b p) = true from hg]; decide), if_neg (fun z => z.1 eW0)]
            exact hr
        · unfold itR
          rw [if_neg hc0, if_pos (show fgB T b (itA T b p) = false from hg)]
          rfl
      · have hnw : ¬ nI w = 0 := fun q => hw0 ((nI_n0 (by omega)).mp q)
        have hR := hbad (Or.inr (fun z => hnw (eW ▸ z.mpr hk0)))
        refine r_aload_n dX9_takeItem_0 rfl ?_
        refine r_getV rfl rfl fl_9_15 dX9_takeItem_1 hk' ?_
        refine r_if_ne 11 dX9_takeItem_4 (by decide) (fun h4 => absurd h4 (not_not_intro rfl)) (fun h4 => ?_)
        refine r_iconst (v := 1) dX9_takeItem_7 rfl ?_
        refine r_goto (tgt := 12) dX9_takeItem_8 (by decide) ?_
        refine r_istore_n (lv' := [(1, _), (0, _)]) dX9_takeItem_12 (Nat.le_of_ble_eq_true rfl) rfl ?_
        refine r_aload_n dX9_takeItem_13 rfl ?_
        refine r_getV rfl rfl fl_9_32 dX9_takeItem_14 t6 ?_
        refine r_bipush (v := 7) dX9_takeItem_17 rfl ?_
        refine r_icmp_ge 47 dX9_takeItem_19 (by decide) (fun h19 => absurd h19 (fun q => absurd ((nI_leI (a := 7) (by decide) (by omega)).mp q) (by omega))) (fun h19 => ?_)
        refine r_iload_n dX9_takeItem_22 rfl ?_
        refine r_aload_n dX9_takeItem_23 rfl ?_
        refine r_getV rfl rfl fl_9_32 dX9_takeItem_24 t6 ?_
        refine r_if_ne 34 dX9_takeItem_27 (by decide) (fun h27 => ?_) (fun h27 => absurd h27 hnw)
        refine r_iconst (v := 0) dX9_takeItem_34 rfl ?_
        refine r_icmp_ne 47 dX9_takeItem_35 (by decide) (fun h35 => ?_) (fun h35 => absurd h35 (by decide))
        refine r_iconst (v := 0) dX9_takeItem_47 rfl ?_
        refine r_zret rfl (by decide) dX9_takeItem_48 ?_
        exact no _ _ hR tkF.rfl' hD.1
    · have hR := hbad (Or.inl eW)
      refine r_aload_n dX9_takeItem_0 rfl ?_
      refine r_getV rfl rfl fl_9_15 dX9_takeItem_1 hk' ?_
      refine r_if_ne 11 dX9_takeItem_4 (by decide) (fun h4 => absurd h4 (not_not_intro rfl)) (fun h4 => ?_)
      refine r_iconst (v := 1) dX9_takeItem_7 rfl ?_
      refine r_goto (tgt := 12) dX9_takeItem_8 (by decide) ?_
      refine r_istore_n (lv' := [(1, _), (0, _)]) dX9_takeItem_12 (Nat.le_of_ble_eq_true rfl) rfl ?_
      refine r_aload_n dX9_takeItem_13 rfl ?_
      refine r_getV rfl rfl fl_9_32 dX9_takeItem_14 t6 ?_
      refine r_bipush (v := 7) dX9_takeItem_17 rfl ?_
      refine r_icmp_ge 47 dX9_takeItem_19 (by decide) (fun h19 => ?_) (fun h19 => absurd h19 (not_not_intro ((nI_leI (a := 7) (by decide) (by omega)).mpr ht7)))
      refine r_iconst (v := 0) dX9_takeItem_47 rfl ?_
      refine r_zret rfl (by decide) dX9_takeItem_48 ?_
      exact no _ _ hR tkF.rfl' hD.1
  · have hkn : ¬ nI k = 0 := fun q => hk0 ((nI_n0 (by omega)).mp q)
    rcases itW_tok hD with ⟨w, hw, t6, eW, hsb, t4, _⟩ | ⟨eW, t, ht7, ht11, t6⟩
    · by_cases hw0 : w = 0
      · have eW0 : itW T b p = 0 := by rw [eW, hw0]; rfl
        have hR := hbad (Or.inr (fun z => hk0 (z.mp eW0)))
        have t60 : I 54 6 = 0 := by rw [t6, hw0]; rfl
        refine r_aload_n dX9_takeItem_0 rfl ?_
        refine r_getV rfl rfl fl_9_15 dX9_takeItem_1 hk ?_
        refine r_if_ne 11 dX9_takeItem_4 (by decide) (fun h4 => ?_) (fun h4 => absurd h4 hkn)
        refine r_iconst (v := 0) dX9_takeItem_11 rfl ?_
        refine r_istore_n (lv' := [(1, _), (0, _)]) dX9_takeItem_12 (Nat.le_of_ble_eq_true rfl) rfl ?_
        refine r_aload_n dX9_takeItem_13 rfl ?_
        refine r_getV rfl rfl fl_9_32 dX9_takeItem_14 t60 ?_
        refine r_bipush (v := 7) dX9_takeItem_17 rfl ?_
        refine r_icmp_ge 47 dX9_takeItem_19 (by decide) (fun h19 => absurd h19 (by decide)) (fun h19 => ?_)
        refine r_iload_n dX9_takeItem_22 rfl ?_
        refine r_aload_n dX9_takeItem_23 rfl ?_
        refine r_getV rfl rfl fl_9_32 dX9_takeItem_24 t60 ?_
        refine r_if_ne 34 dX9_takeItem_27 (by decide) (fun h27 => absurd h27 (not_not_intro rfl)) (fun h27 => ?_)
        refine r_iconst (v := 1) dX9_takeItem_30 rfl ?_
        refine r_goto (tgt := 35) dX9_takeItem_31 (by decide) ?_
        refine r_icmp_ne 47 dX9_takeItem_35 (by decide) (fun h35 => ?_) (fun h35 => absurd h35 (by decide))
        refine r_iconst (v := 0) dX9_takeItem_47 rfl ?_
        refine r_zret rfl (by decide) dX9_takeItem_48 ?_
        exact no _ _ hR tkF.rfl' hD.1
      · have hnw : ¬ nI w = 0 := fun q => hw0 ((nI_n0 (by omega)).mp q)
        have eWn : ¬ itW T b p = 0 := by rw [eW]; exact hnw
        have hc0 : ¬ (itW T b p = -1 ∨ ¬ (itW T b p = 0 ↔ k = 0)) := fun z => z.elim (fun y => by rw [eW] at y; exact nI_n1 (by omega) y) (fun y => y ⟨fun q => absurd q eWn, fun q => absurd q hk0⟩)
        refine r_aload_n dX9_takeItem_0 rfl ?_
        refine r_getV rfl rfl fl_9_15 dX9_takeItem_1 hk ?_
        refine r_if_ne 11 dX9_takeItem_4 (by decide) (fun h4 => ?_) (fun h4 => absurd h4 hkn)
        refine r_iconst (v := 0) dX9_takeItem_11 rfl ?_
        refine r_istore_n (lv' := [(1, _), (0, _)]) dX9_takeItem_12 (Nat.le_of_ble_eq_true rfl) rfl ?_
        refine r_aload_n dX9_takeItem_13 rfl ?_
        refine r_getV rfl rfl fl_9_32 dX9_takeItem_14 t6 ?_
        refine r_bipush (v := 7) dX9_takeItem_17 rfl ?_
        refine r_icmp_ge 47 dX9_takeItem_19 (by decide) (fun h19 => absurd h19 (fun q => absurd ((nI_leI (a := 7) (by decide) (by omega)).mp q) (by omega))) (fun h19 => ?_)
        refine r_iload_n dX9_takeItem_22 rfl ?_
        refine r_aload_n dX9_takeItem_23 rfl ?_
        refine r_getV rfl rfl fl_9_32 dX9_takeItem_24 t6 ?_
        refine r_if_ne 34 dX9_takeItem_27 (by decide) (fun h27 => ?_) (fun h27 => absurd h27 hnw)
        refine r_iconst (v := 0) dX9_takeItem_34 rfl ?_
        refine r_icmp_ne 47 dX9_takeItem_35 (by decide) (fun h35 => absurd h35 (not_not_intro rfl)) (fun h35 => ?_)
        refine r_aload_n dX9_takeItem_38 rfl ?_
        refine r_getV rfl rfl fl_9_15 dX9_takeItem_39 hk ?_
        refine r_bipush (v := 30) dX9_takeItem_42 rfl ?_
        refine r_icmp_lt 49 dX9_takeItem_44 (by decide) (fun h44 => ?_) (fun h44 => absurd h44 (not_not_intro ((nI_ltI (b := 30) (by omega) (by decide)).mpr (hkw hsb))))
        refine r_aload_n dX9_takeItem_49 rfl ?_
        refine r_getV rfl rfl fl_9_32 dX9_takeItem_50 t6 ?_
        refine r_istore_n (lv' := [(2, _), (1, _), (0, _)]) dX9_takeItem_53 (Nat.le_of_ble_eq_true rfl) rfl ?_
        refine r_iload_n dX9_takeItem_54 rfl ?_
        refine r_if_eq 62 dX9_takeItem_55 (by decide) (fun h55 => ?_) (fun h55 => absurd h55 (not_not_intro rfl))
        refine r_iconst (v := 2) dX9_takeItem_62 rfl ?_
        refine r_istore_n (lv' := [(3, _), (2, _), (1, _), (0, _)]) dX9_takeItem_63 (Nat.le_of_ble_eq_true rfl) rfl ?_
        refine r_iconst (v := 0) dX9_takeItem_64 rfl ?_
        refine r_istore (lv' := [(4, _), (3, _), (2, _), (1, _), (0, _)]) dX9_takeItem_65 (Nat.le_of_ble_eq_true rfl) rfl ?_
        refine r_keep [4, 2, 3, 1, 0] rfl (fig (le T b (sk T b p)) 0 2 (nI w) 0 I (by decide) (by decide) hle.2 tkF.rfl' t4 (fun hg I2 f2 g4 => ?_) (fun hg => ?_))
        · have hA := fgB_lt hg
          refine fig (itA T b p + 1) 1 2 _ 0 I2 (by decide) (by decide) hA f2 g4 (fun hg2 I3 f3 g43 => ?_) (fun hg2 => ?_)
          · have hB := fgB_lt hg2
            refine stp (itB T b p + 1) 2 _ 0 I3 (by decide) hB f3 g43 (by unfold itC; rw [if_neg eWn]) (by decide) ?_ (fun r hr => ?_) (hkw hsb)
            · rw [if_pos rfl]
              unfold itV
              rw [if_neg eWn, eW]
              show 10 * (10 * nI w + (T (itA T b p) - 48)) + (T (itB T b p) - 48) = 100 * nI w + 10 * (T (itA T b p) - 48) + (T (itB T b p) - 48)
              rw [Int32.mul_add, ← Int32.mul_assoc]
              rfl
            · unfold itR
              rw [if_neg hc0, if_neg (by rw [show fgB T b (itA T b p) = true from hg]; decide), if_neg (fun z => by rw [show fgB T b (itB T b p) = true from hg2] at z; cases z.2)]
              exact hr
          · unfold itR
            rw [if_neg hc0, if_neg (by rw [show fgB T b (itA T b p) = true from hg]; decide), if_pos ⟨eWn, show fgB T b (itB T b p) = false from hg2⟩]
            rfl
        · unfold itR
          rw [if_neg hc0, if_pos (show fgB T b (itA T b p) = false from hg)]
          rfl
    · have hR := hbad (Or.inl eW)
      refine r_aload_n dX9_takeItem_0 rfl ?_
      refine r_getV rfl rfl fl_9_15 dX9_takeItem_1 hk ?_
      refine r_if_ne 11 dX9_takeItem_4 (by decide) (fun h4 => ?_) (fun h4 => absurd h4 hkn)
      refine r_iconst (v := 0) dX9_takeItem_11 rfl ?_
      refine r_istore_n (lv' := [(1, _), (0, _)]) dX9_takeItem_12 (Nat.le_of_ble_eq_true rfl) rfl ?_
      refine r_aload_n dX9_takeItem_13 rfl ?_
      refine r_getV rfl rfl fl_9_32 dX9_takeItem_14 t6 ?_
      refine r_bipush (v := 7) dX9_takeItem_17 rfl ?_
      refine r_icmp_ge 47 dX9_takeItem_19 (by decide) (fun h19 => ?_) (fun h19 => absurd h19 (not_not_intro ((nI_leI (a := 7) (by decide) (by omega)).mpr ht7)))
      refine r_iconst (v := 0) dX9_takeItem_47 rfl ?_
      refine r_zret rfl (by decide) dX9_takeItem_48 ?_
      exact no _ _ hR tkF.rfl' hD.1
