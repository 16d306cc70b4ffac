/-! the model: the text -/
def skF (T : Nat → Int32) : Nat → Nat → Nat
  | 0, p => p
  | m + 1, p => if T p = 32 then skF T m (p + 1) else p
def sk (T : Nat → Int32) (b p : Nat) : Nat := skF T (b - p) p
def isL (T : Nat → Int32) (q : Nat) : Bool := decide (97 ≤ (T q).toInt ∧ (T q).toInt ≤ 122)
def ltF (T : Nat → Int32) : Nat → Nat → Nat
  | 0, p => p
  | m + 1, p => if isL T p then ltF T m (p + 1) else p
def dg (T : Nat → Int32) (b q : Nat) : Bool := decide (q < b) && decide (48 ≤ (T q).toInt ∧ (T q).toInt ≤ 57)
def wcL (T : Nat → Int32) (s : Nat) : Nat → Int64
  | 0 => 0
  | m + 1 => if 7 < m then -1 else wcL T s m * 256 + (T (s + m)).toInt64
def wdI (w : Int64) : Int32 := if w = 1818846821 then 0 else if w = 6578553 then 1 else if w = 474147546227 then 2 else if w = 32762566252455283 then 3 else if w = 1852798053 then 4 else if w = 418363302244 then 5 else if w = 24948 then 6 else -1
theorem skF_le (T : Nat → Int32) : ∀ m p, p ≤ skF T m p ∧ skF T m p ≤ p + m := by
  intro m
  induction m with
  | zero => intro p; exact ⟨Nat.le_refl _, Nat.le_refl _⟩
  | succ m ih =>
    intro p
    unfold skF
    split
    · have := ih (p + 1); omega
    · omega
theorem sk_le {T : Nat → Int32} {b p : Nat} (h : p ≤ b) : p ≤ sk T b p ∧ sk T b p ≤ b := by
  have := skF_le T (b - p) p
  unfold sk
  omega
theorem ltF_le (T : Nat → Int32) : ∀ m p, p ≤ ltF T m p ∧ ltF T m p ≤ p + m := by
  intro m
  induction m with
  | zero => intro p; exact ⟨Nat.le_refl _, Nat.le_refl _⟩
  | succ m ih =>
    intro p
    unfold ltF
    split
    · have := ih (p + 1); omega
    · omega
/-- the slots place and begin have changed -/
def pbS (I I' : fdI) (p q : Nat) : Prop := (∀ a, a ≠ 0 → I' a = I a) ∧ (∀ j, j ≠ 30 → j ≠ 31 → I' 0 j = I 0 j) ∧ I' 0 30 = nI p ∧ I' 0 31 = nI q
theorem c_skips (α : Nat → Nat) (I : fdI) (L : fdL) {b p : Nat} (hb : I 0 29 = nI b) (hb150 : b ≤ 150) (hp : I 0 30 = nI p) (hpb : p ≤ b) : Con fd_SM α yX11_skips mX11_skips [.ref (α 0)] I L (fd_vp (fun I' L' => L' = L ∧ pbS I I' (sk (I 20) b p) (sk (I 20) b p))) := by
  refine Con.of (by decide) rfl (Nat.le_of_ble_eq_true rfl) ?_
  have loop : ∀ m q, q + m = b → skF (I 20) m q = sk (I 20) b p → ∀ I1 : fdI, (∀ a, a ≠ 0 → I1 a = I a) → (∀ j, j ≠ 30 → I1 0 j = I 0 j) → I1 0 30 = nI q → Rn fd_SM α mX11_skips 0 [(0, .ref (α 0))] [] I1 L (fd_vp (fun I' L' => L' = L ∧ pbS I I' (sk (I 20) b p) (sk (I 20) b p))) := by
    intro m
    induction m with
    | zero =>
      intro q hq he I1 g1 g2 g3
      have : q = b := by omega
      subst this
      have he : q = sk (I 20) q p := he
      have b1 : I1 0 29 = nI q := (g2 29 (by decide)).trans hb
      refine r_aload_n dX11_skips_0 rfl ?_
      refine r_getV rfl rfl fl_11_221 dX11_skips_1 g3 ?_
      refine r_aload_n dX11_skips_4 rfl ?_
      refine r_getV rfl rfl fl_11_218 dX11_skips_5 b1 ?_
      refine r_icmp_ge 38 dX11_skips_8 (by decide) (fun h8 => ?_) (fun h8 => absurd h8 (not_not_intro (Int32.le_refl _)))
      refine r_aload_n dX11_skips_38 rfl ?_
      refine r_aload_n dX11_skips_39 rfl ?_
      refine r_getV rfl rfl fl_11_221 dX11_skips_40 g3 ?_
      refine r_putI rfl rfl fl_11_224 fw_11_31 dX11_skips_43 ?_
      refine r_vret rfl dX11_skips_46 ?_
      exact ⟨rfl, rfl, fun a ha => by rw [fd_up_cell ha]; exact g1 a ha, fun j j1 j2 => by rw [fd_up_pl j2]; exact g2 j j1, by rw [fd_up_pl (by decide), g3, ← he], by rw [fd_up_same, ← he]⟩
    | succ m ih =>
      intro q hq he I1 g1 g2 g3
      have b1 : I1 0 29 = nI b := (g2 29 (by decide)).trans hb
      have tx : I1 20 = I 20 := g1 20 (by decide)
      by_cases h32 : I 20 q = 32
      · have he2 : skF (I 20) m (q + 1) = sk (I 20) b p := by rw [← he]; exact (if_pos h32).symm
        refine r_aload_n dX11_skips_0 rfl ?_
        refine r_getV rfl rfl fl_11_221 dX11_skips_1 g3 ?_
        refine r_aload_n dX11_skips_4 rfl ?_
        refine r_getV rfl rfl fl_11_218 dX11_skips_5 b1 ?_
        refine r_icmp_ge 38 dX11_skips_8 (by decide) (fun h8 => absurd h8 (fun z => absurd ((nI_leI (by omega) (by omega)).mp z) (by omega))) (fun h8 => ?_)
        refine r_aload_n dX11_skips_11 rfl ?_
        refine r_getR rfl rfl fl_11_67 dX11_skips_12 ?_
        refine r_aload_n dX11_skips_15 rfl ?_
        refine r_getV rfl rfl fl_11_221 dX11_skips_16 g3 ?_
        refine r_ialdN rfl dX11_skips_19 (by omega) (by omega) (Eq.trans (by rw [tx]) h32) ?_
        refine r_bipush (v := 32) dX11_skips_20 rfl ?_
        refine r_icmp_ne 38 dX11_skips_22 (by decide) (fun h22 => absurd h22 (not_not_intro rfl)) (fun h22 => ?_)
        refine r_aload_n dX11_skips_25 rfl ?_
        refine r_dup dX11_skips_26 rfl ?_
        refine r_getV rfl rfl fl_11_221 dX11_skips_27 g3 ?_
        refine r_iconst (v := 1) dX11_skips_30 rfl ?_
        refine r_iadd dX11_skips_31 ?_
        rw [nI_1]
        refine r_putI rfl rfl fl_11_221 fw_11_30 dX11_skips_32 ?_
        refine r_goto (tgt := 0) dX11_skips_35 (by decide) ?_
        exact r_keep [0] rfl (ih (q + 1) (by omega) he2 _ (fun a ha => by rw [fd_up_cell ha]; exact g1 a ha) (fun j j1 => by rw [fd_up_pl j1]; exact g2 j j1) fd_up_same)
      · have he2 : q = sk (I 20) b p := by rw [← he]; exact (if_neg h32).symm
        refine r_aload_n dX11_skips_0 rfl ?_
        refine r_getV rfl rfl fl_11_221 dX11_skips_1 g3 ?_
        refine r_aload_n dX11_skips_4 rfl ?_
        refine r_getV rfl rfl fl_11_218 dX11_skips_5 b1 ?_
        refine r_icmp_ge 38 dX11_skips_8 (by decide) (fun h8 => absurd h8 (fun z => absurd ((nI_leI (by omega) (by omega)).mp z) (by omega))) (fun h8 => ?_)
        refine r_aload_n dX11_skips_11 rfl ?_
        refine r_getR rfl rfl fl_11_67 dX11_skips_12 ?_
        refine r_aload_n dX11_skips_15 rfl ?_
        refine r_getV rfl rfl fl_11_221 dX11_skips_16 g3 ?_
        refine r_ialdN rfl dX11_skips_19 (by omega) (by omega) (congrFun tx q) ?_
        refine r_bipush (v := 32) dX11_skips_20 rfl ?_
        refine r_icmp_ne 38 dX11_skips_22 (by decide) (fun h22 => ?_) (fun h22 => absurd h22 h32)
        refine r_aload_n dX11_skips_38 rfl ?_
        refine r_aload_n dX11_skips_39 rfl ?_
        refine r_getV rfl rfl fl_11_221 dX11_skips_40 g3 ?_
        refine r_putI rfl rfl fl_11_224 fw_11_31 dX11_skips_43 ?_
        refine r_vret rfl dX11_skips_46 ?_
        exact ⟨rfl, rfl, fun a ha => by rw [fd_up_cell ha]; exact g1 a ha, fun j j1 j2 => by rw [fd_up_pl j2]; exact g2 j j1, by rw [fd_up_pl (by decide), g3, ← he2], by rw [fd_up_same, ← he2]⟩
  exact loop (b - p) p (by omega) rfl I (fun _ _ => rfl) (fun _ _ => rfl) hp
theorem c_inL {S : List fdE} (α : Nat → Nat) (I : fdI) (L : fdL) (v : Int32) : Con S α yX11_in mX11_in [.long v.toInt64, .long 97, .long 122] I L (fd_is (some (.int (fd_b (97 ≤ v.toInt ∧ v.toInt ≤ 122)))) I L) := c_inP α I L v 97 122 _ Iff.rfl
theorem c_inD {S : List fdE} (α : Nat → Nat) (I : fdI) (L : fdL) (v : Int32) : Con S α yX11_in mX11_in [.long v.toInt64, .long 48, .long 57] I L (fd_is (some (.int (fd_b (48 ≤ v.toInt ∧ v.toInt ≤ 57)))) I L) := c_inP α I L v 48 57 _ Iff.rfl
/-- the end of the letters at s -/
def le (T : Nat → Int32) (b s : Nat) : Nat := ltF T (b - s) s
theorem c_word (α : Nat → Nat) (I : fdI) (L : fdL) {b p : Nat} (hb : I 0 29 = nI b) (hb150 : b ≤ 150) (hp : I 0 30 = nI p) (hpb : p ≤ b) : Con fd_SM α yX11_word mX11_word [.ref (α 0)] I L (fd_ip (fun v I' L' => L' = L ∧ v = .int (wdI (wcL (I 20) (sk (I 20) b p) (le (I 20) b (sk (I 20) b p) - sk (I 20) b p))) ∧ pbS I I' (le (I 20) b (sk (I 20) b p)) (sk (I 20) b p))) := by
  refine Con.of (by decide) rfl (Nat.le_of_ble_eq_true rfl) ?_
  have hs := sk_le (T := I 20) hpb
  generalize hS : sk (I 20) b p = s at hs
  have fin : ∀ w : Int64, w = wcL (I 20) s (le (I 20) b s - s) → ∀ I1 : fdI, pbS I I1 (le (I 20) b s) s → Rn fd_SM α mX11_word 89 [(1, .long w), (0, .ref (α 0))] [] I1 L (fd_ip (fun v I' L' => L' = L ∧ v = .int (wdI (wcL (I 20) s (le (I 20) b s - s))) ∧ pbS I I' (le (I 20) b s) s)) := by
    intro w hw I1 g
    rw [← hw]
    have ex : ∀ v, v = wdI w → fd_ip (fun v I' L' => L' = L ∧ v = .int (wdI w) ∧ pbS I I' (le (I 20) b s) s) (some (.int v)) I1 L := fun v hv => ⟨_, rfl, rfl, by rw [hv], g⟩
    refine r_lload_n dX11_word_89 rfl ?_
    refine r_ldc2 (v := (1818846821 : Int64)) (fd_in 1310 (by decide +kernel) (by decide +kernel)) dX11_word_90 ?_
    refine r_lcmp dX11_word_93 ?_
    refine r_if_ne 101 dX11_word_94 (by decide) (fun h94 => ?_) (fun h94 => ?_)
    · have n0 : ¬ w = 1818846821 := fun q => h94 ((lg_cmp_eq _ _).mpr q)
      refine r_lload_n dX11_word_101 rfl ?_
      refine r_ldc2 (v := (6578553 : Int64)) (fd_in 1311 (by decide +kernel) (by decide +kernel)) dX11_word_102 ?_
      refine r_lcmp dX11_word_105 ?_
      refine r_if_ne 113 dX11_word_106 (by decide) (fun h106 => ?_) (fun h106 => ?_)
      · have n1 : ¬ w = 6578553 := fun q => h106 ((lg_cmp_eq _ _).mpr q)
        refine r_lload_n dX11_word_113 rfl ?_
        refine r_ldc2 (v := (474147546227 : Int64)) (fd_in 1312 (by decide +kernel) (by decide +kernel)) dX11_word_114 ?_
        refine r_lcmp dX11_word_117 ?_
        refine r_if_ne 125 dX11_word_118 (by decide) (fun h118 => ?_) (fun h118 => ?_)
        · have n2 : ¬ w = 474147546227 := fun q => h118 ((lg_cmp_eq _ _).mpr q)
          refine r_lload_n dX11_word_125 rfl ?_
          refine r_ldc2 (v := (32762566252455283 : Int64)) (fd_in 1313 (by decide +kernel) (by decide +kernel)) dX11_word_126 ?_
          refine r_lcmp dX11_word_129 ?_
          refine r_if_ne 137 dX11_word_130 (by decide) (fun h130 => ?_) (fun h130 => ?_)
          · have n3 : ¬ w = 32762566252455283 := fun q => h130 ((lg_cmp_eq _ _).mpr q)
            refine r_lload_n dX11_word_137 rfl ?_
            refine r_ldc2 (v := (1852798053 : Int64)) (fd_in 1314 (by decide +kernel) (by decide +kernel)) dX11_word_138 ?_
            refine r_lcmp dX11_word_141 ?_
            refine r_if_ne 149 dX11_word_142 (by decide) (fun h142 => ?_) (fun h142 => ?_)
            · have n4 : ¬ w = 1852798053 := fun q => h142 ((lg_cmp_eq _ _).mpr q)
              refine r_lload_n dX11_word_149 rfl ?_
              refine r_ldc2 (v := (418363302244 : Int64)) (fd_in 1315 (by decide +kernel) (by decide +kernel)) dX11_word_150 ?_
              refine r_lcmp dX11_word_153 ?_
              refine r_if_ne 161 dX11_word_154 (by decide) (fun h154 => ?_) (fun h154 => ?_)
              · have n5 : ¬ w = 418363302244 := fun q => h154 ((lg_cmp_eq _ _).mpr q)
                refine r_lload_n dX11_word_161 rfl ?_
                refine r_ldc2 (v := (24948 : Int64)) (fd_in 1316 (by decide +kernel) (by decide +kernel)) dX11_word_162 ?_
                refine r_lcmp dX11_word_165 ?_
                refine r_if_ne 174 dX11_word_166 (by decide) (fun h166 => ?_) (fun h166 => ?_)
                · have n6 : ¬ w = 24948 := fun q => h166 ((lg_cmp_eq _ _).mpr q)
                  have ev : (-1 : Int32) = wdI w := by unfold wdI; rw [if_neg n0, if_neg n1, if_neg n2, if_neg n3, if_neg n4, if_neg n5, if_neg n6]
                  refine r_iconst (v := (-1)) dX11_word_174 rfl ?_
                  refine r_iret rfl dX11_word_175 ?_
                  exact ex _ ev
                · have ev : (6 : Int32) = wdI w := by unfold wdI; rw [if_neg n0, if_neg n1, if_neg n2, if_neg n3, if_neg n4, if_neg n5, if_pos ((lg_cmp_eq _ _).mp h166)]
                  refine r_bipush (v := 6) dX11_word_169 rfl ?_
                  refine r_goto (tgt := 175) dX11_word_171 (by decide) ?_
                  refine r_iret rfl dX11_word_175 ?_
                  exact ex _ ev
              · have ev : (5 : Int32) = wdI w := by unfold wdI; rw [if_neg n0, if_neg n1, if_neg n2, if_neg n3, if_neg n4, if_pos ((lg_cmp_eq _ _).mp h154)]
                refine r_iconst (v := 5) dX11_word_157 rfl ?_
                refine r_goto (tgt := 175) dX11_word_158 (by decide) ?_
                refine r_iret rfl dX11_word_175 ?_
                exact ex _ ev
            · have ev : (4 : Int32) = wdI w := by unfold wdI; rw [if_neg n0, if_neg n1, if_neg n2, if_neg n3, if_pos ((lg_cmp_eq _ _).mp h142)]
              refine r_iconst (v := 4) dX11_word_145 rfl ?_
              refine r_goto (tgt := 175) dX11_word_146 (by decide) ?_
              refine r_iret rfl dX11_word_175 ?_
              exact ex _ ev
          · have ev : (3 : Int32) = wdI w := by unfold wdI; rw [if_neg n0, if_neg n1, if_neg n2, if_pos ((lg_cmp_eq _ _).mp h130)]
            refine r_iconst (v := 3) dX11_word_133 rfl ?_
            refine r_goto (tgt := 175) dX11_word_134 (by decide) ?_
            refine r_iret rfl dX11_word_175 ?_
            exact ex _ ev
        · have ev : (2 : Int32) = wdI w := by unfold wdI; rw [if_neg n0, if_neg n1, if_pos ((lg_cmp_eq _ _).mp h118)]
          refine r_iconst (v := 2) dX11_word_121 rfl ?_
          refine r_goto (tgt := 175) dX11_word_122 (by decide) ?_
          refine r_iret rfl dX11_word_175 ?_
          exact ex _ ev
      · have ev : (1 : Int32) = wdI w := by unfold wdI; rw [if_neg n0, if_pos ((lg_cmp_eq _ _).mp h106)]
        refine r_iconst (v := 1) dX11_word_109 rfl ?_
        refine r_goto (tgt := 175) dX11_word_110 (by decide) ?_
        refine r_iret rfl dX11_word_175 ?_
        exact ex _ ev
    · have ev : (0 : Int32) = wdI w := (if_pos ((lg_cmp_eq _ _).mp h94)).symm
      refine r_iconst (v := 0) dX11_word_97 rfl ?_
      refine r_goto (tgt := 175) dX11_word_98 (by decide) ?_
      refine r_iret rfl dX11_word_175 ?_
      exact ex _ ev
  have loop : ∀ r m, s + m + r = b → ltF (I 20) r (s + m) = le (I 20) b s → ∀ I1 : fdI, pbS I I1 (s + m) s → Rn fd_SM α mX11_word 6 [(1, .long (wcL (I 20) s m)), (0, .ref (α 0))] [] I1 L (fd_ip (fun v I' L' => L' = L ∧ v = .int (wdI (wcL (I 20) s (le (I 20) b s - s))) ∧ pbS I I' (le (I 20) b s) s)) := by
    intro r
    induction r with
    | zero =>
      intro m hm he I1 g
      have he : s + m = le (I 20) b s := he
      have b1 : I1 0 29 = nI b := (g.2.1 29 (by decide) (by decide)).trans hb
      refine r_aload_n dX11_word_6 rfl ?_
      refine r_getV rfl rfl fl_11_221 dX11_word_7 g.2.2.1 ?_
      refine r_aload_n dX11_word_10 rfl ?_
      refine r_getV rfl rfl fl_11_218 dX11_word_11 b1 ?_
      refine r_icmp_ge 89 dX11_word_14 (by decide) (fun h14 => ?_) (fun h14 => absurd h14 (not_not_intro ((nI_leI (by omega) (by omega)).mpr (by omega))))
      exact r_keep [1, 0] rfl (fin _ (by rw [← he, Nat.add_sub_cancel_left]) I1 (by rw [← he]; exact g))
    | succ r ih =>
      intro m hm he I1 g
      have b1 : I1 0 29 = nI b := (g.2.1 29 (by decide) (by decide)).trans hb
      have tx : I1 20 = I 20 := g.1 20 (by decide)
      by_cases hl : 97 ≤ (I 20 (s + m)).toInt ∧ (I 20 (s + m)).toInt ≤ 122
      · have he2 : ltF (I 20) r (s + (m + 1)) = le (I 20) b s := by
          rw [← he]
          show _ = if isL (I 20) (s + m) = true then _ else _
          rw [if_pos (by unfold isL; exact decide_eq_true hl)]
          rfl
        have jn : ∀ w, w = wcL (I 20) s (m + 1) → Rn fd_SM α mX11_word 75 [(0, .ref (α 0))] [.long w] I1 L (fd_ip (fun v I' L' => L' = L ∧ v = .int (wdI (wcL (I 20) s (le (I 20) b s - s))) ∧ pbS I I' (le (I 20) b s) s)) := by
          intro w hw
          subst hw
          refine r_lstore_n (lv' := [(1, _), (0, _)]) dX11_word_75 (Nat.le_of_ble_eq_true rfl) rfl ?_
          refine r_aload_n dX11_word_76 rfl ?_
          refine r_dup dX11_word_77 rfl ?_
          refine r_getV rfl rfl fl_11_221 dX11_word_78 g.2.2.1 ?_
          refine r_iconst (v := 1) dX11_word_81 rfl ?_
          refine r_iadd dX11_word_82 ?_
          rw [nI_1]
          refine r_putI rfl rfl fl_11_221 fw_11_30 dX11_word_83 ?_
          refine r_goto (tgt := 6) dX11_word_86 (by decide) ?_
          refine r_keep [1, 0] rfl (ih (m + 1) (by omega) he2 _ ⟨fun a ha => by rw [fd_up_cell ha]; exact g.1 a ha, fun j j1 j2 => by rw [fd_up_pl j1]; exact g.2.1 j j1 j2, fd_up_same, by rw [fd_up_pl (by decide)]; exact g.2.2.2⟩)
        refine r_aload_n dX11_word_6 rfl ?_
        refine r_getV rfl rfl fl_11_221 dX11_word_7 g.2.2.1 ?_
        refine r_aload_n dX11_word_10 rfl ?_
        refine r_getV rfl rfl fl_11_218 dX11_word_11 b1 ?_
        refine r_icmp_ge 89 dX11_word_14 (by decide) (fun h14 => absurd h14 (fun z => absurd ((nI_leI (by omega) (by omega)).mp z) (by omega))) (fun h14 => ?_)
        refine r_aload_n dX11_word_17 rfl ?_
        refine r_getR rfl rfl fl_11_67 dX11_word_18 ?_
        refine r_aload_n dX11_word_21 rfl ?_
        refine r_getV rfl rfl fl_11_221 dX11_word_22 g.2.2.1 ?_
        refine r_ialdN rfl dX11_word_25 (by omega) (by omega) (congrFun tx _) ?_
        refine r_i2l dX11_word_26 rfl ?_
        refine r_ldc2 (v := (97 : Int64)) (fd_in 1307 (by decide +kernel) (by decide +kernel)) dX11_word_27 ?_
        refine r_ldc2 (v := (122 : Int64)) (fd_in 1308 (by decide +kernel) (by decide +kernel)) dX11_word_30 ?_
        refine r_cSr (As := [_, _, _]) (c_inL α _ _ _) lk_11_97 (by decide) (by decide) rfl rfl (Nat.le_of_ble_eq_true rfl) dX11_word_33 ?_
        refine r_if_eq 89 dX11_word_36 (by decide) (fun h36 => absurd h36 (fd_bn.mpr hl)) (fun h36 => ?_)
        refine r_aload_n dX11_word_39 rfl ?_
        refine r_getV rfl rfl fl_11_221 dX11_word_40 g.2.2.1 ?_
        refine r_aload_n dX11_word_43 rfl ?_
        refine r_getV rfl rfl fl_11_224 dX11_word_44 g.2.2.2 ?_
        refine r_isub dX11_word_47 ?_
        rw [pk_sub (by omega), Nat.add_sub_cancel_left]
        refine r_bipush (v := 7) dX11_word_48 rfl ?_
        refine r_icmp_le 59 dX11_word_50 (by decide) (fun h50 => ?_) (fun h50 => ?_)
        · have z : ¬ 7 < m := fun q => absurd ((nI_leI (b := 7) (by omega) (by omega)).mp h50) (by omega)
          have ev : wcL (I 20) s m * 256 + (I 20 (s + m)).toInt64 = wcL (I 20) s (m + 1) := (if_neg z).symm
          refine r_lload_n dX11_word_59 rfl ?_
          refine r_ldc2 (v := (256 : Int64)) (fd_in 1309 (by decide +kernel) (by decide +kernel)) dX11_word_60 ?_
          refine r_lmul dX11_word_63 ?_
          refine r_aload_n dX11_word_64 rfl ?_
          refine r_getR rfl rfl fl_11_67 dX11_word_65 ?_
          refine r_aload_n dX11_word_68 rfl ?_
          refine r_getV rfl rfl fl_11_221 dX11_word_69 g.2.2.1 ?_
          refine r_ialdN rfl dX11_word_72 (by omega) (by omega) (congrFun tx _) ?_
          refine r_i2l dX11_word_73 rfl ?_
          refine r_ladd dX11_word_74 ?_
          exact r_keep [0] rfl (jn _ ev)
        · have z : 7 < m := Nat.lt_of_not_le fun q => h50 ((nI_leI (b := 7) (by omega) (by omega)).mpr q)
          have ev : (-1 : Int64) = wcL (I 20) s (m + 1) := (if_pos z).symm
          refine r_ldc2 (v := (-1 : Int64)) (fd_in 1234 (by decide +kernel) (by decide +kernel)) dX11_word_53 ?_
          refine r_goto (tgt := 75) dX11_word_56 (by decide) ?_
          exact r_keep [0] rfl (jn _ ev)
      · have he2 : s + m = le (I 20) b s := by
          rw [← he]
          show _ = if isL (I 20) (s + m) = true then _ else _
          rw [if_neg (by unfold isL; simpa using hl)]
        refine r_aload_n dX11_word_6 rfl ?_
        refine r_getV rfl rfl fl_11_221 dX11_word_7 g.2.2.1 ?_
        refine r_aload_n dX11_word_10 rfl ?_
        refine r_getV rfl rfl fl_11_218 dX11_word_11 b1 ?_
        refine r_icmp_ge 89 dX11_word_14 (by decide) (fun h14 => absurd h14 (fun z => absurd ((nI_leI (by omega) (by omega)).mp z) (by omega))) (fun h14 => ?_)
        refine r_aload_n dX11_word_17 rfl ?_
        refine r_getR rfl rfl fl_11_67 dX11_word_18 ?_
        refine r_aload_n dX11_word_21 rfl ?_
        refine r_getV rfl rfl fl_11_221 dX11_word_22 g.2.2.1 ?_
        refine r_ialdN rfl dX11_word_25 (by omega) (by omega) (congrFun tx _) ?_
        refine r_i2l dX11_word_26 rfl ?_
        refine r_ldc2 (v := (97 : Int64)) (fd_in 1307 (by decide +kernel) (by decide +kernel)) dX11_word_27 ?_
        refine r_ldc2 (v := (122 : Int64)) (fd_in 1308 (by decide +kernel) (by decide +kernel)) dX11_word_30 ?_
        refine r_cSr (As := [_, _, _]) (c_inL α _ _ _) lk_11_97 (by decide) (by decide) rfl rfl (Nat.le_of_ble_eq_true rfl) dX11_word_33 ?_
        refine r_if_eq 89 dX11_word_36 (by decide) (fun h36 => ?_) (fun h36 => absurd h36 (not_not_intro (fd_b0.mpr hl)))
        exact r_keep [1, 0] rfl (fin _ (by rw [← he2, Nat.add_sub_cancel_left]) I1 (by rw [← he2]; exact g))
  refine r_aload_n dX11_word_0 rfl ?_
  refine r_cVq (As := []) (c_skips α _ _ hb hb150 hp hpb) lk_11_227 rfl rfl (by decide) (by decide) rfl rfl (Nat.le_of_ble_eq_true rfl) dX11_word_1 (fun I1 L1 q1 => ?_)
  obtain ⟨e1, s1⟩ := q1
  subst e1
  rw [hS] at s1
  refine r_lconst (v := 0) dX11_word_4 rfl ?_
  refine r_lstore_n (lv' := [(1, _), (0, _)]) dX11_word_5 (Nat.le_of_ble_eq_true rfl) rfl ?_
  exact r_keep [1, 0] rfl (loop (b - s) 0 (by omega) rfl _ s1)
theorem c_isFigure (α : Nat → Nat) (I : fdI) (L : fdL) {b q : Nat} (hb : I 0 29 = nI b) (hb150 : b ≤ 150) (hq : q ≤ b + 1) : Con fd_SM α yX11_isFigure mX11_isFigure [.ref (α 0), .int (nI q)] I L (fd_is (some (.int (fd_b (dg (I 20) b q = true)))) I L) := by
  refine Con.of (by decide) rfl (Nat.le_of_ble_eq_true rfl) ?_
  by_cases hqb : q < b
  · refine r_iload_n dX11_isFigure_0 rfl ?_
    refine r_aload_n dX11_isFigure_1 rfl ?_
    refine r_getV rfl rfl fl_11_218 dX11_isFigure_2 hb ?_
    refine r_icmp_ge 31 dX11_isFigure_5 (by decide) (fun h5 => absurd h5 (fun z => absurd ((nI_leI (by omega) (by omega)).mp z) (by omega))) (fun h5 => ?_)
    refine r_aload_n dX11_isFigure_8 rfl ?_
    refine r_getR rfl rfl fl_11_67 dX11_isFigure_9 ?_
    refine r_iload_n dX11_isFigure_12 rfl ?_
    refine r_ialdN rfl dX11_isFigure_13 (by omega) (by omega) rfl ?_
    refine r_i2l dX11_isFigure_14 rfl ?_
    refine r_ldc2 (v := (48 : Int64)) (fd_in 1325 (by decide +kernel) (by decide +kernel)) dX11_isFigure_15 ?_
    refine r_ldc2 (v := (57 : Int64)) (fd_in 1326 (by decide +kernel) (by decide +kernel)) dX11_isFigure_18 ?_
    refine r_cSr (As := [_, _, _]) (c_inD α _ _ _) lk_11_97 (by decide) (by decide) rfl rfl (Nat.le_of_ble_eq_true rfl) dX11_isFigure_21 ?_
    refine r_if_eq 31 dX11_isFigure_24 (by decide) (fun h24 => ?_) (fun h24 => ?_)
    · have ev : (0 : Int32) = fd_b (dg (I 20) b q = true) := (fd_b_f (fun z => by unfold dg at z; rw [Bool.and_eq_true] at z; exact fd_b0.mp h24 (of_decide_eq_true z.2))).symm
      refine r_iconst (v := 0) dX11_isFigure_31 rfl ?_
      refine r_zret rfl (by decide) dX11_isFigure_32 ?_
      exact fd_isi ev rfl rfl
    · have ev : (1 : Int32) = fd_b (dg (I 20) b q = true) := (fd_b_t (by unfold dg; rw [decide_eq_true hqb, decide_eq_true (fd_bn.mp h24)]; rfl)).symm
      refine r_iconst (v := 1) dX11_isFigure_27 rfl ?_
      refine r_goto (tgt := 32) dX11_isFigure_28 (by decide) ?_
      refine r_zret rfl (by decide) dX11_isFigure_32 ?_
      exact fd_isi ev rfl rfl
  · refine r_iload_n dX11_isFigure_0 rfl ?_
    refine r_aload_n dX11_isFigure_1 rfl ?_
    refine r_getV rfl rfl fl_11_218 dX11_isFigure_2 hb ?_
    refine r_icmp_ge 31 dX11_isFigure_5 (by decide) (fun h5 => ?_) (fun h5 => absurd h5 (not_not_intro ((nI_leI (by omega) (by omega)).mpr (by omega))))
    refine r_iconst (v := 0) dX11_isFigure_31 rfl ?_
    refine r_zret rfl (by decide) dX11_isFigure_32 ?_
    exact fd_isi (fd_b_f (fun z => by unfold dg at z; rw [Bool.and_eq_true] at z; exact hqb (of_decide_eq_true z.1))).symm rfl rfl
def fgB (T : Nat → Int32) (b s : Nat) : Bool := dg T b s && !dg T b (s + 1)
theorem c_figure (α : Nat → Nat) (I : fdI) (L : fdL) {b p : Nat} (hb : I 0 29 = nI b) (hb150 : b ≤ 150) (hp : I 0 30 = nI p) (hpb : p ≤ b) (hw : I 0 32 = 0) : Con fd_SM α yX11_figure mX11_figure [.ref (α 0)] I L (fd_ip (fun v I' L' => L' = L ∧ (∀ a, a ≠ 0 → I' a = I a) ∧ (∀ j, j ≠ 30 → j ≠ 31 → j ≠ 32 → I' 0 j = I 0 j) ∧ I' 0 31 = nI (sk (I 20) b p) ∧ (fgB (I 20) b (sk (I 20) b p) = true → I' 0 30 = nI (sk (I 20) b p + 1) ∧ I' 0 32 = 0 ∧ v = .int (I 20 (sk (I 20) b p) - 48)) ∧ (fgB (I 20) b (sk (I 20) b p) = false → I' 0 30 = nI (sk (I 20) b p) ∧ I' 0 32 = 1 ∧ v = .int 0))) := by
  refine Con.of (by decide) rfl (Nat.le_of_ble_eq_true rfl) ?_
  have hs := sk_le (T := I 20) hpb
  generalize hS : sk (I 20) b p = s at hs
  have good : fgB (I 20) b s = true → ∀ I1 : fdI, pbS I I1 s s → Rn fd_SM α mX11_figure 41 [(0, .ref (α 0))] [.int 0, .ref (α 0)] I1 L (fd_ip (fun v I' L' => L' = L ∧ (∀ a, a ≠ 0 → I' a = I a) ∧ (∀ j, j ≠ 30 → j ≠ 31 → j ≠ 32 → I' 0 j = I 0 j) ∧ I' 0 31 = nI s ∧ (fgB (I 20) b s = true → I' 0 30 = nI (s + 1) ∧ I' 0 32 = 0 ∧ v = .int (I 20 s - 48)) ∧ (fgB (I 20) b s = false → I' 0 30 = nI s ∧ I' 0 32 = 1 ∧ v = .int 0))) := by
    intro hg I1 g
    have hsb : s < b := by
      unfold fgB dg at hg
      simp only [Bool.and_eq_true] at hg
      exact of_decide_eq_true hg.1.1
    have tx : I1 20 = I 20 := g.1 20 (by decide)
    refine r_putZ rfl rfl fl_11_254 fw_11_32 ((Or.inl rfl)) dX11_figure_41 ?_
    refine r_aload_n dX11_figure_44 rfl ?_
    refine r_dup dX11_figure_45 rfl ?_
    refine r_getV rfl rfl fl_11_221 dX11_figure_46 (Eq.trans (fd_up_pl (by decide)) g.2.2.1) ?_
    refine r_aload_n dX11_figure_49 rfl ?_
    refine r_getV rfl rfl fl_11_254 dX11_figure_50 fd_up_same ?_
    refine r_if_eq 60 dX11_figure_53 (by decide) (fun h53 => ?_) (fun h53 => absurd h53 (not_not_intro rfl))
    refine r_iconst (v := 1) dX11_figure_60 rfl ?_
    refine r_iadd dX11_figure_61 ?_
    rw [nI_1]
    refine r_putI rfl rfl fl_11_221 fw_11_30 dX11_figure_62 ?_
    refine r_aload_n dX11_figure_65 rfl ?_
    refine r_getV rfl rfl fl_11_254 dX11_figure_66 (Eq.trans (fd_up_pl (by decide)) fd_up_same) ?_
    refine r_if_eq 76 dX11_figure_69 (by decide) (fun h69 => ?_) (fun h69 => absurd h69 (not_not_intro rfl))
    refine r_aload_n dX11_figure_76 rfl ?_
    refine r_getR rfl rfl fl_11_67 dX11_figure_77 ?_
    refine r_aload_n dX11_figure_80 rfl ?_
    refine r_getV rfl rfl fl_11_221 dX11_figure_81 fd_up_same ?_
    refine r_iconst (v := 1) dX11_figure_84 rfl ?_
    refine r_isub dX11_figure_85 ?_
    rw [nI_pred]
    refine r_ialdN rfl dX11_figure_86 (by omega) (by omega) (Eq.trans (by rw [fd_up_ne (by decide), fd_up_ne (by decide)]) (congrFun tx s)) ?_
    refine r_bipush (v := 48) dX11_figure_87 rfl ?_
    refine r_isub dX11_figure_89 ?_
    refine r_iret rfl dX11_figure_90 ?_
    refine ⟨_, rfl, rfl, fun a ha => by rw [fd_up_cell ha, fd_up_cell ha]; exact g.1 a ha, fun j j1 j2 j3 => by rw [fd_up_pl j1, fd_up_pl j3]; exact g.2.1 j j1 j2, by rw [fd_up_pl (by decide), fd_up_pl (by decide)]; exact g.2.2.2, fun _ => ⟨fd_up_same, by rw [fd_up_pl (by decide), fd_up_same], rfl⟩, fun z => by rw [hg] at z; cases z⟩
  have bad : fgB (I 20) b s = false → ∀ I1 : fdI, pbS I I1 s s → Rn fd_SM α mX11_figure 41 [(0, .ref (α 0))] [.int 1, .ref (α 0)] I1 L (fd_ip (fun v I' L' => L' = L ∧ (∀ a, a ≠ 0 → I' a = I a) ∧ (∀ j, j ≠ 30 → j ≠ 31 → j ≠ 32 → I' 0 j = I 0 j) ∧ I' 0 31 = nI s ∧ (fgB (I 20) b s = true → I' 0 30 = nI (s + 1) ∧ I' 0 32 = 0 ∧ v = .int (I 20 s - 48)) ∧ (fgB (I 20) b s = false → I' 0 30 = nI s ∧ I' 0 32 = 1 ∧ v = .int 0))) := by
    intro hg I1 g
    refine r_putZ rfl rfl fl_11_254 fw_11_32 ((Or.inr rfl)) dX11_figure_41 ?_
    refine r_aload_n dX11_figure_44 rfl ?_
    refine r_dup dX11_figure_45 rfl ?_
    refine r_getV rfl rfl fl_11_221 dX11_figure_46 (Eq.trans (fd_up_pl (by decide)) g.2.2.1) ?_
    refine r_aload_n dX11_figure_49 rfl ?_
    refine r_getV rfl rfl fl_11_254 dX11_figure_50 fd_up_same ?_
    refine r_if_eq 60 dX11_figure_53 (by decide) (fun h53 => absurd h53 (by decide)) (fun h53 => ?_)
    refine r_iconst (v := 0) dX11_figure_56 rfl ?_
    refine r_goto (tgt := 61) dX11_figure_57 (by decide) ?_
    refine r_iadd dX11_figure_61 ?_
    rw [Int32.add_zero]
    refine r_putI rfl rfl fl_11_221 fw_11_30 dX11_figure_62 ?_
    refine r_aload_n dX11_figure_65 rfl ?_
    refine r_getV rfl rfl fl_11_254 dX11_figure_66 (Eq.trans (fd_up_pl (by decide)) fd_up_same) ?_
    refine r_if_eq 76 dX11_figure_69 (by decide) (fun h69 => absurd h69 (by decide)) (fun h69 => ?_)
    refine r_iconst (v := 0) dX11_figure_72 rfl ?_
    refine r_goto (tgt := 90) dX11_figure_73 (by decide) ?_
    refine r_iret rfl dX11_figure_90 ?_
    refine ⟨_, rfl, rfl, fun a ha => by rw [fd_up_cell ha, fd_up_cell ha]; exact g.1 a ha, fun j j1 j2 j3 => by rw [fd_up_pl j1, fd_up_pl j3]; exact g.2.1 j j1 j2, by rw [fd_up_pl (by decide), fd_up_pl (by decide)]; exact g.2.2.2, fun z => (by rw [hg] at z; cases z), fun _ => ⟨fd_up_same, by rw [fd_up_pl (by decide), fd_up_same], rfl⟩⟩
  refine r_aload_n dX11_figure_0 rfl ?_
  refine r_cVq (As := []) (c_skips α _ _ hb hb150 hp hpb) lk_11_227 rfl rfl (by decide) (by decide) rfl rfl (Nat.le_of_ble_eq_true rfl) dX11_figure_1 (fun I1 L1 q1 => ?_)
  obtain ⟨e1, s1⟩ := q1
  subst e1
  rw [hS] at s1
  have tx : I1 20 = I 20 := s1.1 20 (by decide)
  have b1 : I1 0 29 = nI b := (s1.2.1 29 (by decide) (by decide)).trans hb
  refine r_aload_n dX11_figure_4 rfl ?_
  refine r_aload_n dX11_figure_5 rfl ?_
  refine r_getV rfl rfl fl_11_254 dX11_figure_6 (Eq.trans (s1.2.1 32 (by decide) (by decide)) hw) ?_
  refine r_if_ne 36 dX11_figure_9 (by decide) (fun h9 => absurd h9 (not_not_intro rfl)) (fun h9 => ?_)
  refine r_aload_n dX11_figure_12 rfl ?_
  refine r_aload_n dX11_figure_13 rfl ?_
  refine r_getV rfl rfl fl_11_221 dX11_figure_14 s1.2.2.1 ?_
  refine r_cVr (As := [_]) (c_isFigure α _ _ b1 hb150 (by omega)) lk_11_258 rfl rfl (by decide) (by decide) rfl rfl (Nat.le_of_ble_eq_true rfl) dX11_figure_17 ?_
  rw [tx]
  refine r_if_eq 36 dX11_figure_20 (by decide) (fun h20 => ?_) (fun h20 => ?_)
  · have z : fgB (I 20) b s = false := by unfold fgB; rw [Bool.eq_false_iff.mpr (fd_b0.mp h20)]; rfl
    refine r_iconst (v := 1) dX11_figure_36 rfl ?_
    refine r_goto (tgt := 41) dX11_figure_37 (by decide) ?_
    first
      | exact bad z _ s1
      | exact good z _ s1
  · refine r_aload_n dX11_figure_23 rfl ?_
    refine r_aload_n dX11_figure_24 rfl ?_
    refine r_getV rfl rfl fl_11_221 dX11_figure_25 s1.2.2.1 ?_
    refine r_iconst (v := 1) dX11_figure_28 rfl ?_
    refine r_iadd dX11_figure_29 ?_
    rw [nI_1]
    refine r_cVr (As := [_]) (c_isFigure α _ _ b1 hb150 (by omega)) lk_11_258 rfl rfl (by decide) (by decide) rfl rfl (Nat.le_of_ble_eq_true rfl) dX11_figure_30 ?_
    rw [tx]
    refine r_if_eq 40 dX11_figure_33 (by decide) (fun h33 => ?_) (fun h33 => ?_)
    · have z : fgB (I 20) b s = true := by unfold fgB; rw [fd_bn.mp h20, Bool.eq_false_iff.mpr (fd_b0.mp h33)]; rfl
      refine r_iconst (v := 0) dX11_figure_40 rfl ?_
      first
        | exact bad z _ s1
        | exact good z _ s1
    · have z : fgB (I 20) b s = false := by unfold fgB; rw [fd_bn.mp h33, Bool.not_true, Bool.and_false]
      refine r_iconst (v := 1) dX11_figure_36 rfl ?_
      refine r_goto (tgt := 41) dX11_figure_37 (by decide) ?_
      first
        | exact bad z _ s1
        | exact good z _ s1
/-- an item at p, behind k of them: whether it stands, and where the next begins or the fault is -/
def itW (T : Nat → Int32) (b p : Nat) : Int32 := wdI (wcL T (sk T b p) (le T b (sk T b p) - sk T b p))
def itA (T : Nat → Int32) (b p : Nat) : Nat := sk T b (le T b (sk T b p))
def itB (T : Nat → Int32) (b p : Nat) : Nat := sk T b (itA T b p + 1)
def itC (T : Nat → Int32) (b p : Nat) : Nat := sk T b (if itW T b p = 0 then itA T b p + 1 else itB T b p + 1)
def itR (T : Nat → Int32) (b k p : Nat) : Bool × Nat :=
  if itW T b p = -1 ∨ ¬ (itW T b p = 0 ↔ k = 0) then (false, sk T b p)
  else if fgB T b (itA T b p) = false then (false, itA T b p)
  else if ¬ itW T b p = 0 ∧ fgB T b (itB T b p) = false then (false, itB T b p)
  else if itC T b p = b ∨ ¬ T (itC T b p) = 59 then (false, itC T b p)
  else (true, itC T b p + 1)
