/-! the model: an item of the text -/
/-- what reading an item leaves -/
def riP (I I' : fdI) (b k p : Nat) : Prop := (∀ a, a ≠ 0 → a ≠ 21 → I' a = I a) ∧ (∀ j, j ≠ 30 → j ≠ 31 → j ≠ 32 → j ≠ 33 → I' 0 j = I 0 j) ∧ (∀ x, x < 3 * k → I' 21 x = I 21 x) ∧
  ((itR (I 20) b k p).1 = true → I' 0 32 = 0 ∧ I' 0 30 = nI (itR (I 20) b k p).2 ∧ I' 0 33 = nI (k + 1) ∧ I' 21 (3 * k) = itW (I 20) b p ∧ I' 21 (3 * k + 1) = I 20 (itA (I 20) b p) - 48 ∧ I' 21 (3 * k + 2) = (if itW (I 20) b p = 0 then 0 else I 20 (itB (I 20) b p) - 48)) ∧
  ((itR (I 20) b k p).1 = false → I' 0 32 = 1 ∧ I' 0 31 = nI (itR (I 20) b k p).2)
theorem le_le {T : Nat → Int32} {b s : Nat} (h : s ≤ b) : s ≤ le T b s ∧ le T b s ≤ b := by
  have := ltF_le T (b - s) s
  unfold le
  omega
theorem fgB_lt {T : Nat → Int32} {b s : Nat} (h : fgB T b s = true) : s < b := by
  unfold fgB dg at h
  simp only [Bool.and_eq_true] at h
  exact of_decide_eq_true h.1.1
set_option maxHeartbeats 1000000 in
theorem c_readItem (α : Nat → Nat) (I : fdI) (L : fdL) {b p k : Nat} (hb : I 0 29 = nI b) (hb150 : b ≤ 150) (hp : I 0 30 = nI p) (hpb : p ≤ b) (hk : I 0 33 = nI k) (hk3 : 3 * k + 2 < 150) : Con fd_SM α yX11_readItem mX11_readItem [.ref (α 0)] I L (fd_vp (fun I' L' => L' = L ∧ riP I I' b k p)) := by
  refine Con.of (by decide) rfl (Nat.le_of_ble_eq_true rfl) ?_
  have hs0 := sk_le (T := I 20) hpb
  have he0 := le_le (T := I 20) hs0.2
  have hs1 := sk_le (T := I 20) he0.2
  have e3 : (3 : Int32) * nI k = nI (3 * k) := pk_mul 3 k
  generalize hW : itW (I 20) b p = W
  -- behind a fault
  have out : ∀ I2 : fdI, riP I I2 b k p → I2 0 32 = 1 → ∀ L2 : fdL, L2 = L → Rn fd_SM α mX11_readItem 111 [(0, .ref (α 0)), (1, .int W)] [] I2 L2 (fd_vp (fun I' L' => L' = L ∧ riP I I' b k p)) := by
    intro I2 r2 w2 L2 e2
    refine r_aload_n dX11_readItem_111 rfl ?_
    refine r_getV rfl rfl fl_11_254 dX11_readItem_112 w2 ?_
    refine r_if_ne 187 dX11_readItem_115 (by decide) (fun h115 => ?_) (fun h115 => absurd h115 (by decide))
    refine r_vret rfl dX11_readItem_187 ?_
    exact ⟨rfl, e2, r2⟩
  have bad40 : (W = -1 ∨ ¬ (W = 0 ↔ k = 0)) → ∀ I1 : fdI, pbS I I1 (le (I 20) b (sk (I 20) b p)) (sk (I 20) b p) → ∀ L1 : fdL, L1 = L → Rn fd_SM α mX11_readItem 40 [(0, .ref (α 0)), (1, .int W)] [.int 1, .ref (α 0)] I1 L1 (fd_vp (fun I' L' => L' = L ∧ riP I I' b k p)) := by
    intro hc I1 g L1 e1
    have hR : itR (I 20) b k p = (false, sk (I 20) b p) := by unfold itR; rw [hW, if_pos hc]
    refine r_putZ rfl rfl fl_11_254 fw_11_32 ((Or.inr rfl)) dX11_readItem_40 ?_
    refine r_aload_n dX11_readItem_43 rfl ?_
    refine r_getV rfl rfl fl_11_254 dX11_readItem_44 fd_up_same ?_
    refine r_if_ne 111 dX11_readItem_47 (by decide) (fun h47 => ?_) (fun h47 => absurd h47 (by decide))
    refine r_keep [0, 1] rfl (out _ ⟨fun a a0 a1 => by rw [fd_up_cell a0]; exact g.1 a a0, fun j j0 j1 j2 j3 => by rw [fd_up_pl j2]; exact g.2.1 j j0 j1, fun x hx => by rw [fd_up_ne (by decide), g.1 21 (by decide)], fun z => (by rw [hR] at z; cases z), fun _ => ⟨fd_up_same, by rw [fd_up_pl (by decide), hR]; exact g.2.2.2⟩⟩ fd_up_same _ e1)
  -- behind the last figure: the end of the item
  have tail : ∀ q, q ≤ b → ¬ (W = -1 ∨ ¬ (W = 0 ↔ k = 0)) → fgB (I 20) b (itA (I 20) b p) = true → (W = 0 ∨ fgB (I 20) b (itB (I 20) b p) = true) → itC (I 20) b p = sk (I 20) b q → ∀ I2 : fdI, (∀ a, a ≠ 0 → a ≠ 21 → I2 a = I a) → (∀ j, j ≠ 30 → j ≠ 31 → j ≠ 32 → I2 0 j = I 0 j) → (∀ x, x < 3 * k → I2 21 x = I 21 x) → I2 0 32 = 0 → I2 0 30 = nI q → I2 21 (3 * k) = W → I2 21 (3 * k + 1) = I 20 (itA (I 20) b p) - 48 → I2 21 (3 * k + 2) = (if W = 0 then 0 else I 20 (itB (I 20) b p) - 48) → ∀ L2 : fdL, L2 = L → Rn fd_SM α mX11_readItem 111 [(0, .ref (α 0)), (1, .int W)] [] I2 L2 (fd_vp (fun I' L' => L' = L ∧ riP I I' b k p)) := by
    intro q hq hc0 hc1 hc2 hC I2 f1 f2 f3 f4 f5 f6 f7 f8 L2 e2
    have tx : I2 20 = I 20 := f1 20 (by decide) (by decide)
    have b2 : I2 0 29 = nI b := (f2 29 (by decide) (by decide) (by decide)).trans hb
    have k2 : I2 0 33 = nI k := (f2 33 (by decide) (by decide) (by decide)).trans hk
    have hs3 := sk_le (T := I 20) hq
    have hR : ∀ r, (if itC (I 20) b p = b ∨ ¬ I 20 (itC (I 20) b p) = 59 then (false, itC (I 20) b p) else (true, itC (I 20) b p + 1)) = r → itR (I 20) b k p = r := by
      intro r hr
      unfold itR
      rw [hW, if_neg hc0, if_neg (by rw [hc1]; decide), if_neg (fun z => hc2.elim z.1 (fun y => by rw [y] at z; exact absurd z.2 (by decide)))]
      exact hr
    rw [hC] at hR
    generalize hS : sk (I 20) b q = s at *
    by_cases hst : s = b ∨ ¬ I 20 s = 59
    · have hR2 := hR _ (if_pos hst)
      have fin : ∀ I3 : fdI, pbS I2 I3 s s → ∀ L3 : fdL, L3 = L → Rn fd_SM α mX11_readItem 153 [(0, .ref (α 0)), (1, .int W)] [.int 1, .ref (α 0)] I3 L3 (fd_vp (fun I' L' => L' = L ∧ riP I I' b k p)) := by
        intro I3 g L3 e3'
        refine r_putZ rfl rfl fl_11_254 fw_11_32 ((Or.inr rfl)) dX11_readItem_153 ?_
        refine r_aload_n dX11_readItem_156 rfl ?_
        refine r_dup dX11_readItem_157 rfl ?_
        refine r_getV rfl rfl fl_11_221 dX11_readItem_158 (Eq.trans (fd_up_pl (by decide)) g.2.2.1) ?_
        refine r_aload_n dX11_readItem_161 rfl ?_
        refine r_getV rfl rfl fl_11_254 dX11_readItem_162 fd_up_same ?_
        refine r_if_eq 172 dX11_readItem_165 (by decide) (fun h165 => absurd h165 (by decide)) (fun h165 => ?_)
        refine r_iconst (v := 0) dX11_readItem_168 rfl ?_
        refine r_goto (tgt := 173) dX11_readItem_169 (by decide) ?_
        refine r_iadd dX11_readItem_173 ?_
        refine r_putI rfl rfl fl_11_221 fw_11_30 dX11_readItem_174 ?_
        refine r_aload_n dX11_readItem_177 rfl ?_
        refine r_dup dX11_readItem_178 rfl ?_
        refine r_getI rfl rfl fl_11_264 dX11_readItem_179 ?_
        refine r_iconst (v := 1) dX11_readItem_182 rfl ?_
        refine r_iadd dX11_readItem_183 ?_
        refine r_putI rfl rfl fl_11_264 fw_11_33 dX11_readItem_184 ?_
        refine r_vret rfl dX11_readItem_187 ?_
        refine ⟨rfl, e3', fun a a0 a1 => by simp only [fd_up_cell a0]; rw [g.1 a a0]; exact f1 a a0 a1, fun j j0 j1 j2 j3 => by rw [fd_up_pl j3, fd_up_pl j0, fd_up_pl j2, g.2.1 j j0 j1]; exact f2 j j0 j1 j2, fun x hx => by rw [fd_up_ne (by decide), fd_up_ne (by decide), fd_up_ne (by decide), g.1 21 (by decide)]; exact f3 x hx, fun z => (by rw [hR2] at z; cases z), fun _ => ⟨by rw [fd_up_pl (by decide), fd_up_pl (by decide), fd_up_same], by rw [fd_up_pl (by decide), fd_up_pl (by decide), fd_up_pl (by decide), g.2.2.2, hR2]⟩⟩
      by_cases hsb : s = b
      · refine r_aload_n dX11_readItem_111 rfl ?_
        refine r_getV rfl rfl fl_11_254 dX11_readItem_112 f4 ?_
        refine r_if_ne 187 dX11_readItem_115 (by decide) (fun h115 => absurd h115 (not_not_intro rfl)) (fun h115 => ?_)
        refine r_aload_n dX11_readItem_118 rfl ?_
        refine r_cVq (As := []) (c_skips α _ _ b2 hb150 f5 hq) lk_11_227 rfl rfl (by decide) (by decide) rfl rfl (Nat.le_of_ble_eq_true rfl) dX11_readItem_119 (fun I119 L119 q119 => ?_)
        obtain ⟨e119, g⟩ := q119
        rw [tx, hS] at g
        refine r_aload_n dX11_readItem_122 rfl ?_
        refine r_aload_n dX11_readItem_123 rfl ?_
        refine r_getV rfl rfl fl_11_221 dX11_readItem_124 g.2.2.1 ?_
        refine r_aload_n dX11_readItem_127 rfl ?_
        refine r_getV rfl rfl fl_11_218 dX11_readItem_128 ((g.2.1 29 (by decide) (by decide)).trans b2) ?_
        refine r_icmp_eq 148 dX11_readItem_131 (by decide) (fun h131 => ?_) (fun h131 => absurd h131 (not_not_intro (by rw [hsb])))
        refine r_iconst (v := 1) dX11_readItem_148 rfl ?_
        refine r_goto (tgt := 153) dX11_readItem_149 (by decide) ?_
        exact r_keep [0, 1] rfl (fin _ g _ (e119.trans e2))
      · have h59 := hst.resolve_left hsb
        refine r_aload_n dX11_readItem_111 rfl ?_
        refine r_getV rfl rfl fl_11_254 dX11_readItem_112 f4 ?_
        refine r_if_ne 187 dX11_readItem_115 (by decide) (fun h115 => absurd h115 (not_not_intro rfl)) (fun h115 => ?_)
        refine r_aload_n dX11_readItem_118 rfl ?_
        refine r_cVq (As := []) (c_skips α _ _ b2 hb150 f5 hq) lk_11_227 rfl rfl (by decide) (by decide) rfl rfl (Nat.le_of_ble_eq_true rfl) dX11_readItem_119 (fun I119 L119 q119 => ?_)
        obtain ⟨e119, g⟩ := q119
        rw [tx, hS] at g
        refine r_aload_n dX11_readItem_122 rfl ?_
        refine r_aload_n dX11_readItem_123 rfl ?_
        refine r_getV rfl rfl fl_11_221 dX11_readItem_124 g.2.2.1 ?_
        refine r_aload_n dX11_readItem_127 rfl ?_
        refine r_getV rfl rfl fl_11_218 dX11_readItem_128 ((g.2.1 29 (by decide) (by decide)).trans b2) ?_
        refine r_icmp_eq 148 dX11_readItem_131 (by decide) (fun h131 => absurd h131 (fun z => hsb ((nI_eq (by omega) (by omega)).mp z))) (fun h131 => ?_)
        refine r_aload_n dX11_readItem_134 rfl ?_
        refine r_getR rfl rfl fl_11_67 dX11_readItem_135 ?_
        refine r_aload_n dX11_readItem_138 rfl ?_
        refine r_getV rfl rfl fl_11_221 dX11_readItem_139 g.2.2.1 ?_
        refine r_ialdN rfl dX11_readItem_142 (by omega) (by omega) (Eq.trans (congrFun (g.1 20 (by decide)) s) (congrFun tx s)) ?_
        refine r_bipush (v := 59) dX11_readItem_143 rfl ?_
        refine r_icmp_eq 152 dX11_readItem_145 (by decide) (fun h145 => absurd h145 h59) (fun h145 => ?_)
        refine r_iconst (v := 1) dX11_readItem_148 rfl ?_
        refine r_goto (tgt := 153) dX11_readItem_149 (by decide) ?_
        exact r_keep [0, 1] rfl (fin _ g _ (e119.trans e2))
    · have hR2 := hR _ (if_neg hst)
      have hsb : ¬ s = b := fun z => hst (Or.inl z)
      have h59 : I 20 s = 59 := Decidable.byContradiction fun z => hst (Or.inr z)
      refine r_aload_n dX11_readItem_111 rfl ?_
      refine r_getV rfl rfl fl_11_254 dX11_readItem_112 f4 ?_
      refine r_if_ne 187 dX11_readItem_115 (by decide) (fun h115 => absurd h115 (not_not_intro rfl)) (fun h115 => ?_)
      refine r_aload_n dX11_readItem_118 rfl ?_
      refine r_cVq (As := []) (c_skips α _ _ b2 hb150 f5 hq) lk_11_227 rfl rfl (by decide) (by decide) rfl rfl (Nat.le_of_ble_eq_true rfl) dX11_readItem_119 (fun I119 L119 q119 => ?_)
      obtain ⟨e119, g⟩ := q119
      rw [tx, hS] at g
      refine r_aload_n dX11_readItem_122 rfl ?_
      refine r_aload_n dX11_readItem_123 rfl ?_
      refine r_getV rfl rfl fl_11_221 dX11_readItem_124 g.2.2.1 ?_
      refine r_aload_n dX11_readItem_127 rfl ?_
      refine r_getV rfl rfl fl_11_218 dX11_readItem_128 ((g.2.1 29 (by decide) (by decide)).trans b2) ?_
      refine r_icmp_eq 148 dX11_readItem_131 (by decide) (fun h131 => absurd h131 (fun z => hsb ((nI_eq (by omega) (by omega)).mp z))) (fun h131 => ?_)
      refine r_aload_n dX11_readItem_134 rfl ?_
      refine r_getR rfl rfl fl_11_67 dX11_readItem_135 ?_
      refine r_aload_n dX11_readItem_138 rfl ?_
      refine r_getV rfl rfl fl_11_221 dX11_readItem_139 g.2.2.1 ?_
      refine r_ialdN rfl dX11_readItem_142 (by omega) (by omega) (Eq.trans (congrFun (g.1 20 (by decide)) s) ((congrFun tx s).trans h59)) ?_
      refine r_bipush (v := 59) dX11_readItem_143 rfl ?_
      refine r_icmp_eq 152 dX11_readItem_145 (by decide) (fun h145 => ?_) (fun h145 => absurd h145 (not_not_intro rfl))
      refine r_iconst (v := 0) dX11_readItem_152 rfl ?_
      refine r_putZ rfl rfl fl_11_254 fw_11_32 ((Or.inl rfl)) dX11_readItem_153 ?_
      refine r_aload_n dX11_readItem_156 rfl ?_
      refine r_dup dX11_readItem_157 rfl ?_
      refine r_getV rfl rfl fl_11_221 dX11_readItem_158 (Eq.trans (fd_up_pl (by decide)) g.2.2.1) ?_
      refine r_aload_n dX11_readItem_161 rfl ?_
      refine r_getV rfl rfl fl_11_254 dX11_readItem_162 fd_up_same ?_
      refine r_if_eq 172 dX11_readItem_165 (by decide) (fun h165 => ?_) (fun h165 => absurd h165 (not_not_intro rfl))
      refine r_iconst (v := 1) dX11_readItem_172 rfl ?_
      refine r_iadd dX11_readItem_173 ?_
      rw [nI_1]
      refine r_putI rfl rfl fl_11_221 fw_11_30 dX11_readItem_174 ?_
      refine r_aload_n dX11_readItem_177 rfl ?_
      refine r_dup dX11_readItem_178 rfl ?_
      refine r_getV rfl rfl fl_11_264 dX11_readItem_179 (Eq.trans (by rw [fd_up_pl (by decide), fd_up_pl (by decide)]) ((g.2.1 33 (by decide) (by decide)).trans k2)) ?_
      refine r_iconst (v := 1) dX11_readItem_182 rfl ?_
      refine r_iadd dX11_readItem_183 ?_
      rw [nI_1]
      refine r_putI rfl rfl fl_11_264 fw_11_33 dX11_readItem_184 ?_
      refine r_vret rfl dX11_readItem_187 ?_
      refine ⟨rfl, e119.trans e2, fun a a0 a1 => by simp only [fd_up_cell a0]; rw [g.1 a a0]; exact f1 a a0 a1, fun j j0 j1 j2 j3 => by rw [fd_up_pl j3, fd_up_pl j0, fd_up_pl j2, g.2.1 j j0 j1]; exact f2 j j0 j1 j2, fun x hx => by rw [fd_up_ne (by decide), fd_up_ne (by decide), fd_up_ne (by decide), g.1 21 (by decide)]; exact f3 x hx, fun _ => ⟨by rw [fd_up_pl (by decide), fd_up_pl (by decide), fd_up_same], by rw [fd_up_pl (by decide), fd_up_same, hR2], fd_up_same, ?_, ?_, ?_⟩, fun z => (by rw [hR2] at z; cases z)⟩
      all_goals rw [fd_up_ne (by decide), fd_up_ne (by decide), fd_up_ne (by decide), g.1 21 (by decide)]
      · rw [hW]; exact f6
      · exact f7
      · rw [hW]; exact f8
  have good40 : ¬ (W = -1 ∨ ¬ (W = 0 ↔ k = 0)) → ∀ I1 : fdI, pbS I I1 (le (I 20) b (sk (I 20) b p)) (sk (I 20) b p) → ∀ L1 : fdL, L1 = L → Rn fd_SM α mX11_readItem 40 [(0, .ref (α 0)), (1, .int W)] [.int 0, .ref (α 0)] I1 L1 (fd_vp (fun I' L' => L' = L ∧ riP I I' b k p)) := by
    intro hc I1 g L1 e1
    have k1 : I1 0 33 = nI k := (g.2.1 33 (by decide) (by decide)).trans hk
    have b1 : I1 0 29 = nI b := (g.2.1 29 (by decide) (by decide)).trans hb
    have tx : I1 20 = I 20 := g.1 20 (by decide)
    -- behind the first figure
    have mid : ∀ (v : Value) (I2 : fdI), (∀ a, a ≠ 0 → a ≠ 21 → I2 a = I a) → (∀ j, j ≠ 30 → j ≠ 31 → j ≠ 32 → I2 0 j = I 0 j) → (∀ x, x < 3 * k → I2 21 x = I 21 x) → I2 21 (3 * k) = W → I2 0 31 = nI (itA (I 20) b p) → (fgB (I 20) b (itA (I 20) b p) = true → I2 0 30 = nI (itA (I 20) b p + 1) ∧ I2 0 32 = 0 ∧ v = .int (I 20 (itA (I 20) b p) - 48)) → (fgB (I 20) b (itA (I 20) b p) = false → I2 0 30 = nI (itA (I 20) b p) ∧ I2 0 32 = 1 ∧ v = .int 0) → ∀ L2 : fdL, L2 = L → Rn fd_SM α mX11_readItem 78 [(0, .ref (α 0)), (1, .int W)] [v, .int (nI (3 * k + 1)), .ref (α 21)] I2 L2 (fd_vp (fun I' L' => L' = L ∧ riP I I' b k p)) := by
      intro v I2 f1 f2 f3 f4 f5 f6 f7 L2 e2
      have k2 : I2 0 33 = nI k := (f2 33 (by decide) (by decide) (by decide)).trans hk
      have b2 : I2 0 29 = nI b := (f2 29 (by decide) (by decide) (by decide)).trans hb
      have tx2 : I2 20 = I 20 := f1 20 (by decide) (by decide)
      cases hf : fgB (I 20) b (itA (I 20) b p) with
      | false =>
        obtain ⟨p2, w2, rfl⟩ := f7 hf
        have hR : itR (I 20) b k p = (false, itA (I 20) b p) := by unfold itR; rw [hW, if_neg hc, if_pos hf]
        have rest : Rn fd_SM α mX11_readItem 110 [(0, .ref (α 0)), (1, .int W)] [.int 0, .int (nI (3 * k + 2)), .ref (α 21)] (fd_up I2 21 (3 * k + 1) 0) L2 (fd_vp (fun I' L' => L' = L ∧ riP I I' b k p)) := by
          refine r_iastN rfl dX11_readItem_110 (by omega) (by omega) ?_
          refine r_keep [0, 1] rfl (out _ ⟨fun a a0 a1 => by rw [fd_up_cell a1, fd_up_cell a1]; exact f1 a a0 a1, fun j j0 j1 j2 j3 => by rw [fd_up_ne (by decide), fd_up_ne (by decide)]; exact f2 j j0 j1 j2, fun x hx => by rw [fd_up_pl (by omega), fd_up_pl (by omega)]; exact f3 x hx, fun z => (by rw [hR] at z; cases z), fun _ => ⟨by rw [fd_up_ne (by decide), fd_up_ne (by decide)]; exact w2, by rw [fd_up_ne (by decide), fd_up_ne (by decide), f5, hR]⟩⟩ (by rw [fd_up_ne (by decide), fd_up_ne (by decide)]; exact w2) _ e2)
        by_cases hw0 : W = 0
        · refine r_iastN rfl dX11_readItem_78 (by omega) (by omega) ?_
          refine r_aload_n dX11_readItem_79 rfl ?_
          refine r_getR rfl rfl fl_11_70 dX11_readItem_80 ?_
          refine r_iconst (v := 3) dX11_readItem_83 rfl ?_
          refine r_aload_n dX11_readItem_84 rfl ?_
          refine r_getV rfl rfl fl_11_264 dX11_readItem_85 k2 ?_
          refine r_imul dX11_readItem_88 ?_
          rw [e3]
          refine r_iconst (v := 2) dX11_readItem_89 rfl ?_
          refine r_iadd dX11_readItem_90 ?_
          rw [show nI (3 * k) + 2 = nI (3 * k + 2) from nI_add _ 2]
          refine r_iload_n dX11_readItem_91 rfl ?_
          refine r_if_eq 102 dX11_readItem_92 (by decide) (fun h92 => ?_) (fun h92 => absurd h92 (not_not_intro hw0))
          refine r_iconst (v := 0) dX11_readItem_102 rfl ?_
          refine r_goto (tgt := 110) dX11_readItem_103 (by decide) ?_
          exact r_keep [0, 1] rfl rest
        · refine r_iastN rfl dX11_readItem_78 (by omega) (by omega) ?_
          refine r_aload_n dX11_readItem_79 rfl ?_
          refine r_getR rfl rfl fl_11_70 dX11_readItem_80 ?_
          refine r_iconst (v := 3) dX11_readItem_83 rfl ?_
          refine r_aload_n dX11_readItem_84 rfl ?_
          refine r_getV rfl rfl fl_11_264 dX11_readItem_85 k2 ?_
          refine r_imul dX11_readItem_88 ?_
          rw [e3]
          refine r_iconst (v := 2) dX11_readItem_89 rfl ?_
          refine r_iadd dX11_readItem_90 ?_
          rw [show nI (3 * k) + 2 = nI (3 * k + 2) from nI_add _ 2]
          refine r_iload_n dX11_readItem_91 rfl ?_
          refine r_if_eq 102 dX11_readItem_92 (by decide) (fun h92 => absurd h92 hw0) (fun h92 => ?_)
          refine r_aload_n dX11_readItem_95 rfl ?_
          refine r_getV rfl rfl fl_11_254 dX11_readItem_96 w2 ?_
          refine r_if_eq 106 dX11_readItem_99 (by decide) (fun h99 => absurd h99 (by decide)) (fun h99 => ?_)
          refine r_iconst (v := 0) dX11_readItem_102 rfl ?_
          refine r_goto (tgt := 110) dX11_readItem_103 (by decide) ?_
          exact r_keep [0, 1] rfl rest
      | true =>
        obtain ⟨p2, w2, rfl⟩ := f6 hf
        have hA := fgB_lt hf
        by_cases hw0 : W = 0
        · have hC : itC (I 20) b p = sk (I 20) b (itA (I 20) b p + 1) := by unfold itC; rw [hW, if_pos hw0]
          refine r_iastN rfl dX11_readItem_78 (by omega) (by omega) ?_
          refine r_aload_n dX11_readItem_79 rfl ?_
          refine r_getR rfl rfl fl_11_70 dX11_readItem_80 ?_
          refine r_iconst (v := 3) dX11_readItem_83 rfl ?_
          refine r_aload_n dX11_readItem_84 rfl ?_
          refine r_getV rfl rfl fl_11_264 dX11_readItem_85 k2 ?_
          refine r_imul dX11_readItem_88 ?_
          rw [e3]
          refine r_iconst (v := 2) dX11_readItem_89 rfl ?_
          refine r_iadd dX11_readItem_90 ?_
          rw [show nI (3 * k) + 2 = nI (3 * k + 2) from nI_add _ 2]
          refine r_iload_n dX11_readItem_91 rfl ?_
          refine r_if_eq 102 dX11_readItem_92 (by decide) (fun h92 => ?_) (fun h92 => absurd h92 (not_not_intro hw0))
          refine r_iconst (v := 0) dX11_readItem_102 rfl ?_
          refine r_goto (tgt := 110) dX11_readItem_103 (by decide) ?_
          refine r_iastN rfl dX11_readItem_110 (by omega) (by omega) ?_
          refine r_keep [0, 1] rfl (tail (itA (I 20) b p + 1) (by omega) hc hf (Or.inl hw0) hC _ (fun a a0 a1 => by rw [fd_up_cell a1, fd_up_cell a1]; exact f1 a a0 a1) (fun j j0 j1 j2 => by rw [fd_up_ne (by decide), fd_up_ne (by decide)]; exact f2 j j0 j1 j2) (fun x hx => by rw [fd_up_pl (by omega), fd_up_pl (by omega)]; exact f3 x hx) (by rw [fd_up_ne (by decide), fd_up_ne (by decide)]; exact w2) (by rw [fd_up_ne (by decide), fd_up_ne (by decide)]; exact p2) (by rw [fd_up_pl (by omega), fd_up_pl (by omega)]; exact f4) (by rw [fd_up_pl (by omega), fd_up_same]) (by rw [fd_up_same, if_pos hw0]) _ e2)
        · refine r_iastN rfl dX11_readItem_78 (by omega) (by omega) ?_
          refine r_aload_n dX11_readItem_79 rfl ?_
          refine r_getR rfl rfl fl_11_70 dX11_readItem_80 ?_
          refine r_iconst (v := 3) dX11_readItem_83 rfl ?_
          refine r_aload_n dX11_readItem_84 rfl ?_
          refine r_getV rfl rfl fl_11_264 dX11_readItem_85 k2 ?_
          refine r_imul dX11_readItem_88 ?_
          rw [e3]
          refine r_iconst (v := 2) dX11_readItem_89 rfl ?_
          refine r_iadd dX11_readItem_90 ?_
          rw [show nI (3 * k) + 2 = nI (3 * k + 2) from nI_add _ 2]
          refine r_iload_n dX11_readItem_91 rfl ?_
          refine r_if_eq 102 dX11_readItem_92 (by decide) (fun h92 => absurd h92 hw0) (fun h92 => ?_)
          refine r_aload_n dX11_readItem_95 rfl ?_
          refine r_getV rfl rfl fl_11_254 dX11_readItem_96 w2 ?_
          refine r_if_eq 106 dX11_readItem_99 (by decide) (fun h99 => ?_) (fun h99 => absurd h99 (not_not_intro rfl))
          refine r_aload_n dX11_readItem_106 rfl ?_
          refine r_cVp (As := []) (c_figure α _ _ (b := b) (p := itA (I 20) b p + 1) b2 hb150 p2 (by omega) w2) lk_11_267 rfl rfl (by decide) (by decide) rfl rfl (Nat.le_of_ble_eq_true rfl) dX11_readItem_107 (fun v107 I107 L107 q107 => ?_)
          obtain ⟨e107, u1, u2, u3, u4, u5⟩ := q107
          have tq : (fd_up I2 21 (3 * k + 1) (I 20 (itA (I 20) b p) - 48)) 20 = I 20 := by rw [fd_up_cell (by decide)]; exact tx2
          rw [tq] at u3 u4 u5
          have hB : sk (I 20) b (itA (I 20) b p + 1) = itB (I 20) b p := rfl
          rw [hB] at u3 u4 u5
          cases hf2 : fgB (I 20) b (itB (I 20) b p) with
          | false =>
            obtain ⟨p3, w3, rfl⟩ := u5 hf2
            have hR : itR (I 20) b k p = (false, itB (I 20) b p) := by unfold itR; rw [hW, if_neg hc, if_neg (by rw [hf]; decide), if_pos ⟨hw0, hf2⟩]
            refine r_iastN rfl dX11_readItem_110 (by omega) (by omega) ?_
            refine r_keep [0, 1] rfl (out _ ⟨fun a a0 a1 => by rw [fd_up_cell a1, u1 a a0, fd_up_cell a1]; exact f1 a a0 a1, fun j j0 j1 j2 j3 => by rw [fd_up_ne (by decide), u2 j j0 j1 j2, fd_up_ne (by decide)]; exact f2 j j0 j1 j2, fun x hx => by rw [fd_up_pl (by omega), u1 21 (by decide), fd_up_pl (by omega)]; exact f3 x hx, fun z => (by rw [hR] at z; cases z), fun _ => ⟨by rw [fd_up_ne (by decide)]; exact w3, by rw [fd_up_ne (by decide), u3, hR]⟩⟩ (by rw [fd_up_ne (by decide)]; exact w3) _ (e107.trans e2))
          | true =>
            obtain ⟨p3, w3, rfl⟩ := u4 hf2
            have hBlt := fgB_lt hf2
            have hC : itC (I 20) b p = sk (I 20) b (itB (I 20) b p + 1) := by unfold itC; rw [hW, if_neg hw0]
            refine r_iastN rfl dX11_readItem_110 (by omega) (by omega) ?_
            refine r_keep [0, 1] rfl (tail (itB (I 20) b p + 1) (by omega) hc hf (Or.inr hf2) hC _ (fun a a0 a1 => by rw [fd_up_cell a1, u1 a a0, fd_up_cell a1]; exact f1 a a0 a1) (fun j j0 j1 j2 => by rw [fd_up_ne (by decide), u2 j j0 j1 j2, fd_up_ne (by decide)]; exact f2 j j0 j1 j2) (fun x hx => by rw [fd_up_pl (by omega), u1 21 (by decide), fd_up_pl (by omega)]; exact f3 x hx) (by rw [fd_up_ne (by decide)]; exact w3) (by rw [fd_up_ne (by decide)]; exact p3) (by rw [fd_up_pl (by omega), u1 21 (by decide), fd_up_pl (by omega)]; exact f4) (by rw [fd_up_pl (by omega), u1 21 (by decide), fd_up_same]) (by rw [fd_up_same, if_neg hw0]) _ (e107.trans e2))
          skip
    refine r_putZ rfl rfl fl_11_254 fw_11_32 ((Or.inl rfl)) dX11_readItem_40 ?_
    refine r_aload_n dX11_readItem_43 rfl ?_
    refine r_getV rfl rfl fl_11_254 dX11_readItem_44 fd_up_same ?_
    refine r_if_ne 111 dX11_readItem_47 (by decide) (fun h47 => absurd h47 (not_not_intro rfl)) (fun h47 => ?_)
    refine r_aload_n dX11_readItem_50 rfl ?_
    refine r_getR rfl rfl fl_11_70 dX11_readItem_51 ?_
    refine r_iconst (v := 3) dX11_readItem_54 rfl ?_
    refine r_aload_n dX11_readItem_55 rfl ?_
    refine r_getV rfl rfl fl_11_264 dX11_readItem_56 (Eq.trans (fd_up_pl (by decide)) k1) ?_
    refine r_imul dX11_readItem_59 ?_
    rw [e3]
    refine r_iload_n dX11_readItem_60 rfl ?_
    refine r_iastN rfl dX11_readItem_61 (by omega) (by omega) ?_
    refine r_aload_n dX11_readItem_62 rfl ?_
    refine r_getR rfl rfl fl_11_70 dX11_readItem_63 ?_
    refine r_iconst (v := 3) dX11_readItem_66 rfl ?_
    refine r_aload_n dX11_readItem_67 rfl ?_
    refine r_getV rfl rfl fl_11_264 dX11_readItem_68 (Eq.trans (by rw [fd_up_ne (by decide), fd_up_pl (by decide)]) k1) ?_
    refine r_imul dX11_readItem_71 ?_
    rw [e3]
    refine r_iconst (v := 1) dX11_readItem_72 rfl ?_
    refine r_iadd dX11_readItem_73 ?_
    rw [show nI (3 * k) + 1 = nI (3 * k + 1) from nI_1 _]
    refine r_aload_n dX11_readItem_74 rfl ?_
    refine r_cVp (As := []) (c_figure α _ _ (b := b) (p := le (I 20) b (sk (I 20) b p)) b1 hb150 (by rw [fd_up_ne (by decide), fd_up_pl (by decide)]; exact g.2.2.1) he0.2 rfl) lk_11_267 rfl rfl (by decide) (by decide) rfl rfl (Nat.le_of_ble_eq_true rfl) dX11_readItem_75 (fun v75 I75 L75 q75 => ?_)
    obtain ⟨e75, u1, u2, u3, u4, u5⟩ := q75
    have tq : (fd_up (fd_up I1 0 32 0) 21 (3 * k) W) 20 = I 20 := by rw [fd_up_cell (by decide), fd_up_cell (by decide)]; exact tx
    rw [tq] at u3 u4 u5
    refine r_keep [0, 1] rfl (mid v75 I75 (fun a a0 a1 => by rw [u1 a a0, fd_up_cell a1, fd_up_cell a0]; exact g.1 a a0) (fun j j0 j1 j2 => by rw [u2 j j0 j1 j2, fd_up_ne (by decide), fd_up_pl j2]; exact g.2.1 j j0 j1) (fun x hx => by rw [u1 21 (by decide), fd_up_pl (by omega), fd_up_ne (by decide), g.1 21 (by decide)]) (by rw [u1 21 (by decide), fd_up_same]) u3 u4 u5 _ (e75.trans e1))
  by_cases h1 : W = -1
  · skip
    refine r_aload_n dX11_readItem_0 rfl ?_
    refine r_cVp (As := []) (c_word α _ _ hb hb150 hp hpb) lk_11_261 rfl rfl (by decide) (by decide) rfl rfl (Nat.le_of_ble_eq_true rfl) dX11_readItem_1 (fun v1 I1 L1 q1 => ?_)
    obtain ⟨e1, rfl, g⟩ := q1
    rw [show wdI (wcL (I 20) (sk (I 20) b p) (le (I 20) b (sk (I 20) b p) - sk (I 20) b p)) = W from hW]
    refine r_istore_n (lv' := [(1, _), (0, _)]) dX11_readItem_4 (Nat.le_of_ble_eq_true rfl) rfl ?_
    refine r_aload_n dX11_readItem_5 rfl ?_
    refine r_iload_n dX11_readItem_6 rfl ?_
    refine r_iconst (v := (-1)) dX11_readItem_7 rfl ?_
    refine r_icmp_eq 35 dX11_readItem_8 (by decide) (fun h8 => ?_) (fun h8 => absurd h8 (not_not_intro h1))
    refine r_iconst (v := 1) dX11_readItem_35 rfl ?_
    refine r_goto (tgt := 40) dX11_readItem_36 (by decide) ?_
    exact r_keep [0, 1] rfl (bad40 (Or.inl h1) _ g _ e1)
  · by_cases h0 : W = 0
    · by_cases hk0 : k = 0
      · subst hk0
        refine r_aload_n dX11_readItem_0 rfl ?_
        refine r_cVp (As := []) (c_word α _ _ hb hb150 hp hpb) lk_11_261 rfl rfl (by decide) (by decide) rfl rfl (Nat.le_of_ble_eq_true rfl) dX11_readItem_1 (fun v1 I1 L1 q1 => ?_)
        obtain ⟨e1, rfl, g⟩ := q1
        rw [show wdI (wcL (I 20) (sk (I 20) b p) (le (I 20) b (sk (I 20) b p) - sk (I 20) b p)) = W from hW]
        refine r_istore_n (lv' := [(1, _), (0, _)]) dX11_readItem_4 (Nat.le_of_ble_eq_true rfl) rfl ?_
        refine r_aload_n dX11_readItem_5 rfl ?_
        refine r_iload_n dX11_readItem_6 rfl ?_
        refine r_iconst (v := (-1)) dX11_readItem_7 rfl ?_
        refine r_icmp_eq 35 dX11_readItem_8 (by decide) (fun h8 => absurd h8 h1) (fun h8 => ?_)
        refine r_iload_n dX11_readItem_11 rfl ?_
        refine r_if_ne 19 dX11_readItem_12 (by decide) (fun h12 => absurd h12 (not_not_intro h0)) (fun h12 => ?_)
        refine r_iconst (v := 1) dX11_readItem_15 rfl ?_
        refine r_goto (tgt := 20) dX11_readItem_16 (by decide) ?_
        refine r_aload_n dX11_readItem_20 rfl ?_
        refine r_getV rfl rfl fl_11_264 dX11_readItem_21 ((g.2.1 33 (by decide) (by decide)).trans hk) ?_
        refine r_if_ne 31 dX11_readItem_24 (by decide) (fun h24 => absurd h24 (not_not_intro rfl)) (fun h24 => ?_)
        refine r_iconst (v := 1) dX11_readItem_27 rfl ?_
        refine r_goto (tgt := 32) dX11_readItem_28 (by decide) ?_
        refine r_icmp_eq 39 dX11_readItem_32 (by decide) (fun h32 => ?_) (fun h32 => absurd h32 (not_not_intro rfl))
        refine r_iconst (v := 0) dX11_readItem_39 rfl ?_
        exact r_keep [0, 1] rfl (good40 (fun z => z.elim h1 (fun y => y ⟨fun _ => rfl, fun _ => h0⟩)) _ g _ e1)
      · skip
        refine r_aload_n dX11_readItem_0 rfl ?_
        refine r_cVp (As := []) (c_word α _ _ hb hb150 hp hpb) lk_11_261 rfl rfl (by decide) (by decide) rfl rfl (Nat.le_of_ble_eq_true rfl) dX11_readItem_1 (fun v1 I1 L1 q1 => ?_)
        obtain ⟨e1, rfl, g⟩ := q1
        rw [show wdI (wcL (I 20) (sk (I 20) b p) (le (I 20) b (sk (I 20) b p) - sk (I 20) b p)) = W from hW]
        refine r_istore_n (lv' := [(1, _), (0, _)]) dX11_readItem_4 (Nat.le_of_ble_eq_true rfl) rfl ?_
        refine r_aload_n dX11_readItem_5 rfl ?_
        refine r_iload_n dX11_readItem_6 rfl ?_
        refine r_iconst (v := (-1)) dX11_readItem_7 rfl ?_
        refine r_icmp_eq 35 dX11_readItem_8 (by decide) (fun h8 => absurd h8 h1) (fun h8 => ?_)
        refine r_iload_n dX11_readItem_11 rfl ?_
        refine r_if_ne 19 dX11_readItem_12 (by decide) (fun h12 => absurd h12 (not_not_intro h0)) (fun h12 => ?_)
        refine r_iconst (v := 1) dX11_readItem_15 rfl ?_
        refine r_goto (tgt := 20) dX11_readItem_16 (by decide) ?_
        refine r_aload_n dX11_readItem_20 rfl ?_
        refine r_getV rfl rfl fl_11_264 dX11_readItem_21 ((g.2.1 33 (by decide) (by decide)).trans hk) ?_
        refine r_if_ne 31 dX11_readItem_24 (by decide) (fun h24 => ?_) (fun h24 => absurd h24 (nI_ne0 (by omega) (by omega)))
        refine r_iconst (v := 0) dX11_readItem_31 rfl ?_
        refine r_icmp_eq 39 dX11_readItem_32 (by decide) (fun h32 => absurd h32 (by decide)) (fun h32 => ?_)
        refine r_iconst (v := 1) dX11_readItem_35 rfl ?_
        refine r_goto (tgt := 40) dX11_readItem_36 (by decide) ?_
        exact r_keep [0, 1] rfl (bad40 (Or.inr (fun z => hk0 (z.mp h0))) _ g _ e1)
    · by_cases hk0 : k = 0
      · subst hk0
        refine r_aload_n dX11_readItem_0 rfl ?_
        refine r_cVp (As := []) (c_word α _ _ hb hb150 hp hpb) lk_11_261 rfl rfl (by decide) (by decide) rfl rfl (Nat.le_of_ble_eq_true rfl) dX11_readItem_1 (fun v1 I1 L1 q1 => ?_)
        obtain ⟨e1, rfl, g⟩ := q1
        rw [show wdI (wcL (I 20) (sk (I 20) b p) (le (I 20) b (sk (I 20) b p) - sk (I 20) b p)) = W from hW]
        refine r_istore_n (lv' := [(1, _), (0, _)]) dX11_readItem_4 (Nat.le_of_ble_eq_true rfl) rfl ?_
        refine r_aload_n dX11_readItem_5 rfl ?_
        refine r_iload_n dX11_readItem_6 rfl ?_
        refine r_iconst (v := (-1)) dX11_readItem_7 rfl ?_
        refine r_icmp_eq 35 dX11_readItem_8 (by decide) (fun h8 => absurd h8 h1) (fun h8 => ?_)
        refine r_iload_n dX11_readItem_11 rfl ?_
        refine r_if_ne 19 dX11_readItem_12 (by decide) (fun h12 => ?_) (fun h12 => absurd h12 h0)
        refine r_iconst (v := 0) dX11_readItem_19 rfl ?_
        refine r_aload_n dX11_readItem_20 rfl ?_
        refine r_getV rfl rfl fl_11_264 dX11_readItem_21 ((g.2.1 33 (by decide) (by decide)).trans hk) ?_
        refine r_if_ne 31 dX11_readItem_24 (by decide) (fun h24 => absurd h24 (not_not_intro rfl)) (fun h24 => ?_)
        refine r_iconst (v := 1) dX11_readItem_27 rfl ?_
        refine r_goto (tgt := 32) dX11_readItem_28 (by decide) ?_
        refine r_icmp_eq 39 dX11_readItem_32 (by decide) (fun h32 => absurd h32 (by decide)) (fun h32 => ?_)
        refine r_iconst (v := 1) dX11_readItem_35 rfl ?_
        refine r_goto (tgt := 40) dX11_readItem_36 (by decide) ?_
        exact r_keep [0, 1] rfl (bad40 (Or.inr (fun z => h0 (z.mpr rfl))) _ g _ e1)
      · skip
        refine r_aload_n dX11_readItem_0 rfl ?_
        refine r_cVp (As := []) (c_word α _ _ hb hb150 hp hpb) lk_11_261 rfl rfl (by decide) (by decide) rfl rfl (Nat.le_of_ble_eq_true rfl) dX11_readItem_1 (fun v1 I1 L1 q1 => ?_)
        obtain ⟨e1, rfl, g⟩ := q1
        rw [show wdI (wcL (I 20) (sk (I 20) b p) (le (I 20) b (sk (I 20) b p) - sk (I 20) b p)) = W from hW]
        refine r_istore_n (lv' := [(1, _), (0, _)]) dX11_readItem_4 (Nat.le_of_ble_eq_true rfl) rfl ?_
        refine r_aload_n dX11_readItem_5 rfl ?_
        refine r_iload_n dX11_readItem_6 rfl ?_
        refine r_iconst (v := (-1)) dX11_readItem_7 rfl ?_
        refine r_icmp_eq 35 dX11_readItem_8 (by decide) (fun h8 => absurd h8 h1) (fun h8 => ?_)
        refine r_iload_n dX11_readItem_11 rfl ?_
        refine r_if_ne 19 dX11_readItem_12 (by decide) (fun h12 => ?_) (fun h12 => absurd h12 h0)
        refine r_iconst (v := 0) dX11_readItem_19 rfl ?_
        refine r_aload_n dX11_readItem_20 rfl ?_
        refine r_getV rfl rfl fl_11_264 dX11_readItem_21 ((g.2.1 33 (by decide) (by decide)).trans hk) ?_
        refine r_if_ne 31 dX11_readItem_24 (by decide) (fun h24 => ?_) (fun h24 => absurd h24 (nI_ne0 (by omega) (by omega)))
        refine r_iconst (v := 0) dX11_readItem_31 rfl ?_
        refine r_icmp_eq 39 dX11_readItem_32 (by decide) (fun h32 => ?_) (fun h32 => absurd h32 (not_not_intro rfl))
        refine r_iconst (v := 0) dX11_readItem_39 rfl ?_
        exact r_keep [0, 1] rfl (good40 (fun z => z.elim h1 (fun y => y ⟨fun q => absurd q h0, fun q => absurd q hk0⟩)) _ g _ e1)
