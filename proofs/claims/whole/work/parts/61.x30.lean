/-! the class: the search for notes -/
theorem srS : ∀ k, k < 4 → fd_SX[70 + k]? = some (.inr (.inl (0, 7))) := by
  intro k hk
  rcases (show k = 0 ∨ k = 1 ∨ k = 2 ∨ k = 3 by omega) with rfl | rfl | rfl | rfl <;> rfl
theorem srC : ∀ k, k < 4 → [70, 71, 72, 73][(nI k).toNatClampNeg]? = some (70 + k) := by
  intro k hk
  rw [nI_clamp (by omega)]
  rcases (show k = 0 ∨ k = 1 ∨ k = 2 ∨ k = 3 by omega) with rfl | rfl | rfl | rfl <;> rfl
/-- the rows that are kept -/
def srX (V : pV) (n nt : Nat) (p : Nat → Nat) (I : fdI) : Prop := I 68 3 = nI (nt + 1) ∧ ∀ i, i < nt + 1 → ∀ d, d < n → I (70 + i) d = rwB V n p i d
theorem c_X6_named {S : List fdE} (α : Nat → Nat) (I : fdI) (L : fdL) (c : Nat) (hc : c < 100) : Con S α yX6_named mX6_named [.int (nI c)] I L (fd_is (some (.int (nI (nmC c)))) I L) := by
  refine Con.of (by decide) rfl (Nat.le_of_ble_eq_true rfl) ?_
  have e1 : nI c / 6 = nI (c / 6) := pk_div (d := 6) (by omega) (by omega) (by omega)
  have e2 : nI c - nI c / 6 * 6 = nI (c % 6) := pk_rem (d := 6) (by omega) (by omega) (by omega)
  have e3 : (10 : Int32) * nI (c / 6) = nI (10 * (c / 6)) := (Int32.ofNat_mul 10 (c / 6)).symm
  refine r_bipush (v := 10) dX6_named_0 rfl ?_
  refine r_iload_n dX6_named_2 rfl ?_
  refine r_bipush (v := 6) dX6_named_3 rfl ?_
  refine r_idiv dX6_named_5 (by decide) ?_
  rw [e1]
  refine r_imul dX6_named_6 ?_
  rw [e3]
  refine r_iload_n dX6_named_7 rfl ?_
  refine r_bipush (v := 6) dX6_named_8 rfl ?_
  refine r_irem dX6_named_10 (by decide) ?_
  rw [e2]
  refine r_iadd dX6_named_11 ?_
  rw [nI_add]
  refine r_iret rfl dX6_named_12 ?_
  exact fd_isI rfl rfl rfl
def awP (b : Bool) (I : fdI) (L : fdL) (v : Value) (I' : fdI) (L' : fdL) : Prop := v = .int (fd_b (b = true)) ∧ L' = L ∧ ∀ a, a ≠ 66 → a ≠ 67 → I' a = I a
theorem c_X6_allWell (V : pV) (N : Nat → Int32) (α : Nat → Nat) (I : fdI) (L : fdL) {n nt : Nat} {p q : Nat → Nat} (hn7 : 1 ≤ n ∧ n ≤ 7) (hnt : nt ≤ 3) (h : lkC V n N I) (hq : isP q n) (ho : orX n q I) (hr : srX V n nt p I) : Con fd_SX α yX6_allWell mX6_allWell [.ref (α 68), .ref (α 57)] I L (fd_ip (awP (awN V n N p nt) I L)) := by
  refine Con.of (by decide) rfl (Nat.le_of_ble_eq_true rfl) ?_
  have loop : ∀ k, k ≤ nt + 1 → ∀ I1 : fdI, (∀ a, a ≠ 66 → a ≠ 67 → I1 a = I a) → anB (fun i => Nat.beq (cnN (wlB V (kyK V N (rwB V n p i))) n) n) k = true → Rn fd_SX α mX6_allWell 2 [(2, .int (nI k)), (0, .ref (α 68)), (1, .ref (α 57))] [] I1 L (fd_ip (awP (awN V n N p nt) I L)) := by
    refine fd_down (fun k hk ih => ?_)
    intro I1 g1 hA
    have e68 : I1 68 3 = nI (nt + 1) := by rw [g1 68 (by decide) (by decide)]; exact hr.1
    by_cases hx : k = nt + 1
    · rw [hx] at hA
      refine r_iload_n dX6_allWell_2 rfl ?_
      refine r_aload_n dX6_allWell_3 rfl ?_
      refine r_getV rfl rfl fl_6_70 dX6_allWell_4 e68 ?_
      refine r_icmp_ge 43 dX6_allWell_7 (by decide) (fun h7 => ?_) (fun h7 => absurd h7 (not_not_intro (by rw [hx]; exact Int32.le_refl _)))
      refine r_iconst (v := 1) dX6_allWell_43 rfl ?_
      refine r_zret rfl (by decide) dX6_allWell_44 ?_
      exact ⟨_, rfl, by rw [fd_b_t (show awN V n N p nt = true from hA)], rfl, g1⟩
    · have hk1 : k < nt + 1 := by omega
      have l1 : lkC V n N I1 := h.same (fun a ha => g1 a (by omega) (by omega))
      have hB : ∀ d, d < n → I1 (70 + k) d = rwB V n p k d := fun d hd => by rw [g1 (70 + k) (by omega) (by omega)]; exact hr.2 k hk1 d hd
      have hcl : cnN (wlB V (kyK V N (rwB V n p k))) n ≤ n := cnN_le _ _
      by_cases hw : cnN (wlB V (kyK V N (rwB V n p k))) n = n
      · have hA2 : anB (fun i => Nat.beq (cnN (wlB V (kyK V N (rwB V n p i))) n) n) (k + 1) = true := by
          show (_ && Nat.beq (cnN (wlB V (kyK V N (rwB V n p k))) n) n) = true
          rw [hA, hw, Nat.beq_refl]
          rfl
        refine r_iload_n dX6_allWell_2 rfl ?_
        refine r_aload_n dX6_allWell_3 rfl ?_
        refine r_getV rfl rfl fl_6_70 dX6_allWell_4 e68 ?_
        refine r_icmp_ge 43 dX6_allWell_7 (by decide) (fun h7 => absurd h7 (fun q => absurd ((nI_leI (by omega) (by omega)).mp q) (by omega))) (fun h7 => ?_)
        refine r_aload_n dX6_allWell_10 rfl ?_
        refine r_aload_n dX6_allWell_11 rfl ?_
        refine r_getR rfl rfl fl_6_11 dX6_allWell_12 ?_
        refine r_iload_n dX6_allWell_15 rfl ?_
        refine r_aaldA rfl dX6_allWell_16 (dayP_in (nI_dayP (show k < 4 by omega) (by decide))) (srC k (by omega)) ?_
        refine r_cVq (As := [_]) (c_X2_readByDate V N (rwB V n p k) α _ _ (70 + k) (srS k (by omega)) (by omega) hn7 l1 hB) lk_6_73 rfl rfl (by decide) (by decide) rfl rfl (Nat.le_of_ble_eq_true rfl) dX6_allWell_17 (fun I17 L17 q17 => ?_)
        obtain ⟨rfl, f17, k17⟩ := q17
        have l17 : lkC V n N I17 := l1.same (fun a ha => f17 a (by omega) (by omega))
        refine r_aload_n dX6_allWell_20 rfl ?_
        refine r_aload_n dX6_allWell_21 rfl ?_
        refine r_getV rfl rfl fl_6_77 dX6_allWell_22 l17.1 ?_
        refine r_cVr (As := [_]) (c_X2_wellAmong V (kyK V N (rwB V n p k)) α _ _ n hn7 (Nat.le_refl _) hq l17 (fun x hx => by rw [f17 58 (by decide) (by decide), g1 58 (by decide) (by decide)]; exact ho x hx) (fun d hd => (k17 d hd).2)) lk_6_80 rfl rfl (by decide) (by decide) rfl rfl (Nat.le_of_ble_eq_true rfl) dX6_allWell_25 ?_
        rw [cnN_perm n _ q hq, hw]
        refine r_aload_n dX6_allWell_28 rfl ?_
        refine r_getV rfl rfl fl_6_77 dX6_allWell_29 l17.1 ?_
        refine r_icmp_ge 37 dX6_allWell_32 (by decide) (fun h32 => ?_) (fun h32 => absurd h32 (not_not_intro (Int32.le_refl _)))
        refine r_iinc (v := _ + 1) (lv' := [(2, _), (0, _), (1, _)]) dX6_allWell_37 rfl rfl (Nat.le_of_ble_eq_true rfl) rfl ?_
        refine r_goto (tgt := 2) dX6_allWell_40 (by decide) ?_
        rw [nI_1]
        exact r_keep [2, 0, 1] rfl (ih hk1 _ (fun a a1 a2 => (f17 a a1 a2).trans (g1 a a1 a2)) hA2)
      · have hF : ¬ awN V n N p nt = true := by
          intro z
          have := anB_iff.mp z k hk1
          exact hw (Nat.eq_of_beq_eq_true this)
        refine r_iload_n dX6_allWell_2 rfl ?_
        refine r_aload_n dX6_allWell_3 rfl ?_
        refine r_getV rfl rfl fl_6_70 dX6_allWell_4 e68 ?_
        refine r_icmp_ge 43 dX6_allWell_7 (by decide) (fun h7 => absurd h7 (fun q => absurd ((nI_leI (by omega) (by omega)).mp q) (by omega))) (fun h7 => ?_)
        refine r_aload_n dX6_allWell_10 rfl ?_
        refine r_aload_n dX6_allWell_11 rfl ?_
        refine r_getR rfl rfl fl_6_11 dX6_allWell_12 ?_
        refine r_iload_n dX6_allWell_15 rfl ?_
        refine r_aaldA rfl dX6_allWell_16 (dayP_in (nI_dayP (show k < 4 by omega) (by decide))) (srC k (by omega)) ?_
        refine r_cVq (As := [_]) (c_X2_readByDate V N (rwB V n p k) α _ _ (70 + k) (srS k (by omega)) (by omega) hn7 l1 hB) lk_6_73 rfl rfl (by decide) (by decide) rfl rfl (Nat.le_of_ble_eq_true rfl) dX6_allWell_17 (fun I17 L17 q17 => ?_)
        obtain ⟨rfl, f17, k17⟩ := q17
        have l17 : lkC V n N I17 := l1.same (fun a ha => f17 a (by omega) (by omega))
        refine r_aload_n dX6_allWell_20 rfl ?_
        refine r_aload_n dX6_allWell_21 rfl ?_
        refine r_getV rfl rfl fl_6_77 dX6_allWell_22 l17.1 ?_
        refine r_cVr (As := [_]) (c_X2_wellAmong V (kyK V N (rwB V n p k)) α _ _ n hn7 (Nat.le_refl _) hq l17 (fun x hx => by rw [f17 58 (by decide) (by decide), g1 58 (by decide) (by decide)]; exact ho x hx) (fun d hd => (k17 d hd).2)) lk_6_80 rfl rfl (by decide) (by decide) rfl rfl (Nat.le_of_ble_eq_true rfl) dX6_allWell_25 ?_
        rw [cnN_perm n _ q hq]
        refine r_aload_n dX6_allWell_28 rfl ?_
        refine r_getV rfl rfl fl_6_77 dX6_allWell_29 l17.1 ?_
        refine r_icmp_ge 37 dX6_allWell_32 (by decide) (fun h32 => absurd h32 (fun q => absurd ((nI_leI (by omega) (by omega)).mp q) (by omega))) (fun h32 => ?_)
        refine r_iconst (v := 0) dX6_allWell_35 rfl ?_
        refine r_zret rfl (by decide) dX6_allWell_36 ?_
        exact ⟨_, rfl, by rw [fd_b_f hF], rfl, fun a a1 a2 => (f17 a a1 a2).trans (g1 a a1 a2)⟩
  refine r_iconst (v := 0) dX6_allWell_0 rfl ?_
  refine r_istore_n (lv' := [(2, _), (0, _), (1, _)]) dX6_allWell_1 (Nat.le_of_ble_eq_true rfl) rfl ?_
  exact r_keep [2, 0, 1] rfl (loop 0 (by omega) I (fun _ _ _ => rfl) rfl)
theorem lkC.up {V : pV} {n : Nat} {N : Nat → Int32} {I : fdI} (h : lkC V n N I) (c : Nat) : lkC V n (upN N c) (fd_up I 64 (c / 6) (I 64 (c / 6) ||| 1 <<< (nI (c % 6) &&& 31))) := by
  refine ⟨h.1, fun d hd => ?_⟩
  obtain ⟨g1, g2, g3, g4, g5⟩ := h.2 d hd
  refine ⟨by rw [fd_up_ne (by decide)]; exact g1, by rw [fd_up_ne (by decide)]; exact g2, by rw [fd_up_ne (by decide)]; exact g3, by rw [fd_up_ne (by decide)]; exact g4, ?_⟩
  rw [fd_up_at]
  unfold upN
  by_cases q : d = c / 6
  · rw [if_pos q, if_pos q, ← q, g5]
  · rw [if_neg q, if_neg q, g5]
theorem c_X6_wellWith (V : pV) (N : Nat → Int32) (α : Nat → Nat) (I : fdI) (L : fdL) (a b : Nat) {n nt : Nat} {p q : Nat → Nat} (hn7 : 1 ≤ n ∧ n ≤ 7) (hnt : nt ≤ 3) (h : lkC V n N I) (hq : isP q n) (ho : orX n q I) (hr : srX V n nt p I) (ha : a < 6 * n) (hb : b < 6 * n) : Con fd_SX α yX6_wellWith mX6_wellWith [.ref (α 68), .ref (α 57), .int (nI a), .int (nI b)] I L (fd_ip (awP (awN V n (upN (upN N a) b) p nt) I L)) := by
  refine Con.of (by decide) rfl (Nat.le_of_ble_eq_true rfl) ?_
  have e1 : nI a / 6 = nI (a / 6) := pk_div (d := 6) (by omega) (by omega) (by omega)
  have e2 : nI b / 6 = nI (b / 6) := pk_div (d := 6) (by omega) (by omega) (by omega)
  have m1 : nI a - nI a / 6 * 6 = nI (a % 6) := pk_rem (d := 6) (by omega) (by omega) (by omega)
  have m2 : nI b - nI b / 6 * 6 = nI (b % 6) := pk_rem (d := 6) (by omega) (by omega) (by omega)
  have l2 := (h.up a).up b
  have hr2 : ∀ J : fdI, (∀ x, x ≠ 64 → J x = I x) → srX V n nt p J := fun J hJ => ⟨by rw [hJ 68 (by decide)]; exact hr.1, fun i hi d hd => by rw [hJ (70 + i) (by omega)]; exact hr.2 i hi d hd⟩
  refine r_iload_n dX6_wellWith_0 rfl ?_
  refine r_bipush (v := 6) dX6_wellWith_1 rfl ?_
  refine r_idiv dX6_wellWith_3 (by decide) ?_
  rw [e1]
  refine r_istore (lv' := [(4, _), (0, _), (1, _), (2, _), (3, _)]) dX6_wellWith_4 (Nat.le_of_ble_eq_true rfl) rfl ?_
  refine r_iload_n dX6_wellWith_6 rfl ?_
  refine r_bipush (v := 6) dX6_wellWith_7 rfl ?_
  refine r_idiv dX6_wellWith_9 (by decide) ?_
  rw [e2]
  refine r_istore (lv' := [(5, _), (4, _), (0, _), (1, _), (2, _), (3, _)]) dX6_wellWith_10 (Nat.le_of_ble_eq_true rfl) rfl ?_
  refine r_aload_n dX6_wellWith_12 rfl ?_
  refine r_getR rfl rfl fl_6_91 dX6_wellWith_13 ?_
  refine r_iload dX6_wellWith_16 rfl ?_
  refine r_ialdN rfl dX6_wellWith_18 (by omega) (by omega) rfl ?_
  refine r_istore (lv' := [(6, _), (5, _), (4, _), (0, _), (1, _), (2, _), (3, _)]) dX6_wellWith_19 (Nat.le_of_ble_eq_true rfl) rfl ?_
  refine r_aload_n dX6_wellWith_21 rfl ?_
  refine r_getR rfl rfl fl_6_91 dX6_wellWith_22 ?_
  refine r_iload dX6_wellWith_25 rfl ?_
  refine r_ialdN rfl dX6_wellWith_27 (by omega) (by omega) rfl ?_
  refine r_istore (lv' := [(7, _), (6, _), (5, _), (4, _), (0, _), (1, _), (2, _), (3, _)]) dX6_wellWith_28 (Nat.le_of_ble_eq_true rfl) rfl ?_
  refine r_aload_n dX6_wellWith_30 rfl ?_
  refine r_getR rfl rfl fl_6_91 dX6_wellWith_31 ?_
  refine r_iload dX6_wellWith_34 rfl ?_
  refine r_dup2 dX6_wellWith_36 rfl rfl ?_
  refine r_ialdN rfl dX6_wellWith_37 (by omega) (by omega) rfl ?_
  refine r_iconst (v := 1) dX6_wellWith_38 rfl ?_
  refine r_iload_n dX6_wellWith_39 rfl ?_
  refine r_bipush (v := 6) dX6_wellWith_40 rfl ?_
  refine r_irem dX6_wellWith_42 (by decide) ?_
  rw [m1]
  refine r_ishl dX6_wellWith_43 ?_
  refine r_ior dX6_wellWith_44 ?_
  refine r_iastN rfl dX6_wellWith_45 (by omega) (by omega) ?_
  refine r_aload_n dX6_wellWith_46 rfl ?_
  refine r_getR rfl rfl fl_6_91 dX6_wellWith_47 ?_
  refine r_iload dX6_wellWith_50 rfl ?_
  refine r_dup2 dX6_wellWith_52 rfl rfl ?_
  refine r_ialdN rfl dX6_wellWith_53 (by omega) (by omega) rfl ?_
  refine r_iconst (v := 1) dX6_wellWith_54 rfl ?_
  refine r_iload_n dX6_wellWith_55 rfl ?_
  refine r_bipush (v := 6) dX6_wellWith_56 rfl ?_
  refine r_irem dX6_wellWith_58 (by decide) ?_
  rw [m2]
  refine r_ishl dX6_wellWith_59 ?_
  refine r_ior dX6_wellWith_60 ?_
  refine r_iastN rfl dX6_wellWith_61 (by omega) (by omega) ?_
  refine r_aload_n dX6_wellWith_62 rfl ?_
  refine r_aload_n dX6_wellWith_63 rfl ?_
  refine r_cVp (As := [_]) (c_X6_allWell V (upN (upN N a) b) α _ _ hn7 hnt l2 hq (fun x hx => by rw [fd_up_ne (by decide), fd_up_ne (by decide)]; exact ho x hx) (hr2 _ (fun x hx => by rw [fd_up_cell hx, fd_up_cell hx]))) lk_6_30 rfl rfl (by decide) (by decide) rfl rfl (Nat.le_of_ble_eq_true rfl) dX6_wellWith_64 (fun v64 I64 L64 q64 => ?_)
  obtain ⟨rfl, rfl, f64⟩ := q64
  refine r_istore (lv' := [(8, _), (7, _), (6, _), (5, _), (4, _), (0, _), (1, _), (2, _), (3, _)]) dX6_wellWith_67 (Nat.le_of_ble_eq_true rfl) rfl ?_
  refine r_aload_n dX6_wellWith_69 rfl ?_
  refine r_getR rfl rfl fl_6_91 dX6_wellWith_70 ?_
  refine r_iload dX6_wellWith_73 rfl ?_
  refine r_iload dX6_wellWith_75 rfl ?_
  refine r_iastN rfl dX6_wellWith_77 (by omega) (by omega) ?_
  refine r_aload_n dX6_wellWith_78 rfl ?_
  refine r_getR rfl rfl fl_6_91 dX6_wellWith_79 ?_
  refine r_iload dX6_wellWith_82 rfl ?_
  refine r_iload dX6_wellWith_84 rfl ?_
  refine r_iastN rfl dX6_wellWith_86 (by omega) (by omega) ?_
  refine r_iload dX6_wellWith_87 rfl ?_
  refine r_zret rfl (fd_b01 _) dX6_wellWith_89 ?_
  refine ⟨_, rfl, rfl, rfl, fun x x1 x2 => ?_⟩
  by_cases y : x = 64
  · subst y
    funext d
    rw [fd_up_at, fd_up_at, f64 64 (by decide) (by decide), fd_up_at, fd_up_at]
    by_cases d1 : d = a / 6
    · rw [if_pos d1, d1]
    · rw [if_neg d1]
      by_cases d2 : d = b / 6
      · rw [if_pos d2, d2]
      · rw [if_neg d2, if_neg d2, fd_up_pl d1]
  · rw [fd_up_cell y, fd_up_cell y, f64 x x1 x2, fd_up_cell y, fd_up_cell y]
/-- only what she reads and knows, and the search's own numbers, have changed -/
def fnF (I I' : fdI) : Prop := ∀ a, a ≠ 66 → a ≠ 67 → a ≠ 68 → I' a = I a
theorem fnF.sr {V : pV} {n nt : Nat} {p : Nat → Nat} {I J : fdI} (h : srX V n nt p I) (f : ∀ a, a ≠ 66 → a ≠ 67 → J a = I a) : srX V n nt p J := ⟨by rw [f 68 (by decide) (by decide)]; exact h.1, fun i hi d hd => by rw [f (70 + i) (by omega) (by omega)]; exact h.2 i hi d hd⟩
def f1P (V : pV) (n nn nt : Nat) (p : Nat → Nat) (I : fdI) (L : fdL) (v : Value) (I' : fdI) (L' : fdL) : Prop := L' = L ∧ fnF I I' ∧ ((v = .int 1 ∧ ∃ r, r < 6 * n ∧ w1N V n nn nt p r = true ∧ (∀ c, c < r → w1N V n nn nt p c = false) ∧ I' 68 = fd_up I 68 1 (nI (nmC r)) 68) ∨ (v = .int 0 ∧ (∀ c, c < 6 * n → w1N V n nn nt p c = false) ∧ I' 68 = I 68))
theorem nI_mul6 {n : Nat} : nI n * 6 = nI (6 * n) := by rw [Nat.mul_comm]; exact (Int32.ofNat_mul n 6).symm
theorem c_X6_findOne (V : pV) (α : Nat → Nat) (I : fdI) (L : fdL) {n nn nt : Nat} {p q : Nat → Nat} (hn7 : 1 ≤ n ∧ n ≤ 7) (hnt : nt ≤ 3) (h : lkX V n nn I) (hq : isP q n) (ho : orX n q I) (hr : srX V n nt p I) : Con fd_SX α yX6_findOne mX6_findOne [.ref (α 68), .ref (α 57)] I L (fd_ip (f1P V n nn nt p I L)) := by
  refine Con.of (by decide) rfl (Nat.le_of_ble_eq_true rfl) ?_
  have loop : ∀ k, k ≤ 6 * n → ∀ I1 : fdI, (∀ a, a ≠ 66 → a ≠ 67 → I1 a = I a) → (∀ c, c < k → w1N V n nn nt p c = false) → Rn fd_SX α mX6_findOne 2 [(2, .int (nI k)), (0, .ref (α 68)), (1, .ref (α 57))] [] I1 L (fd_ip (f1P V n nn nt p I L)) := by
    refine fd_down (fun k hk ih => ?_)
    intro I1 g1 g2
    have l1 : lkX V n nn I1 := h.same (fun a ha => g1 a (by omega) (by omega))
    by_cases hx : k = 6 * n
    · refine r_iload_n dX6_findOne_2 rfl ?_
      refine r_aload_n dX6_findOne_3 rfl ?_
      refine r_getV rfl rfl fl_6_77 dX6_findOne_4 l1.1 ?_
      refine r_bipush (v := 6) dX6_findOne_7 rfl ?_
      refine r_imul dX6_findOne_9 ?_
      rw [nI_mul6]
      refine r_icmp_ge 39 dX6_findOne_10 (by decide) (fun h10 => ?_) (fun h10 => absurd h10 (not_not_intro (by rw [hx]; exact Int32.le_refl _)))
      refine r_iconst (v := 0) dX6_findOne_39 rfl ?_
      refine r_zret rfl (by decide) dX6_findOne_40 ?_
      exact ⟨_, rfl, rfl, fun a a1 a2 _ => g1 a a1 a2, Or.inr ⟨rfl, by rw [← hx]; exact g2, g1 68 (by decide) (by decide)⟩⟩
    · have hk1 : k < 6 * n := by omega
      have ew : awN V n (upN (upN (noN V nn) k) k) p nt = w1N V n nn nt p k := awN_N fun d _ => upN_2 _ k d
      by_cases hw : w1N V n nn nt p k = true
      · refine r_iload_n dX6_findOne_2 rfl ?_
        refine r_aload_n dX6_findOne_3 rfl ?_
        refine r_getV rfl rfl fl_6_77 dX6_findOne_4 l1.1 ?_
        refine r_bipush (v := 6) dX6_findOne_7 rfl ?_
        refine r_imul dX6_findOne_9 ?_
        rw [nI_mul6]
        refine r_icmp_ge 39 dX6_findOne_10 (by decide) (fun h10 => absurd h10 (fun q => absurd ((nI_leI (by omega) (by omega)).mp q) (by omega))) (fun h10 => ?_)
        refine r_aload_n dX6_findOne_13 rfl ?_
        refine r_aload_n dX6_findOne_14 rfl ?_
        refine r_iload_n dX6_findOne_15 rfl ?_
        refine r_iload_n dX6_findOne_16 rfl ?_
        refine r_cVp (As := [_, _, _]) (c_X6_wellWith V (noN V nn) α _ _ k k hn7 hnt l1 hq (fun x hx => by rw [g1 58 (by decide) (by decide)]; exact ho x hx) (fnF.sr hr g1) hk1 hk1) lk_6_84 rfl rfl (by decide) (by decide) rfl rfl (Nat.le_of_ble_eq_true rfl) dX6_findOne_17 (fun v17 I17 L17 q17 => ?_)
        obtain ⟨rfl, rfl, f17⟩ := q17
        rw [ew]
        refine r_if_eq 33 dX6_findOne_20 (by decide) (fun h20 => absurd h20 (fd_bn.mpr hw)) (fun h20 => ?_)
        refine r_aload_n dX6_findOne_23 rfl ?_
        refine r_iload_n dX6_findOne_24 rfl ?_
        refine r_cSr (As := [_]) (c_X6_named α _ _ k (by omega)) lk_6_88 (by decide) (by decide) rfl rfl (Nat.le_of_ble_eq_true rfl) dX6_findOne_25 ?_
        refine r_putI rfl rfl fl_6_24 fw_6_1 dX6_findOne_28 ?_
        refine r_iconst (v := 1) dX6_findOne_31 rfl ?_
        refine r_zret rfl (by decide) dX6_findOne_32 ?_
        refine ⟨_, rfl, rfl, fun a a1 a2 a3 => by rw [fd_up_cell a3, f17 a a1 a2]; exact g1 a a1 a2, Or.inl ⟨rfl, k, hk1, hw, g2, ?_⟩⟩
        funext d
        rw [fd_up_at, fd_up_at, f17 68 (by decide) (by decide), g1 68 (by decide) (by decide)]
      · refine r_iload_n dX6_findOne_2 rfl ?_
        refine r_aload_n dX6_findOne_3 rfl ?_
        refine r_getV rfl rfl fl_6_77 dX6_findOne_4 l1.1 ?_
        refine r_bipush (v := 6) dX6_findOne_7 rfl ?_
        refine r_imul dX6_findOne_9 ?_
        rw [nI_mul6]
        refine r_icmp_ge 39 dX6_findOne_10 (by decide) (fun h10 => absurd h10 (fun q => absurd ((nI_leI (by omega) (by omega)).mp q) (by omega))) (fun h10 => ?_)
        refine r_aload_n dX6_findOne_13 rfl ?_
        refine r_aload_n dX6_findOne_14 rfl ?_
        refine r_iload_n dX6_findOne_15 rfl ?_
        refine r_iload_n dX6_findOne_16 rfl ?_
        refine r_cVp (As := [_, _, _]) (c_X6_wellWith V (noN V nn) α _ _ k k hn7 hnt l1 hq (fun x hx => by rw [g1 58 (by decide) (by decide)]; exact ho x hx) (fnF.sr hr g1) hk1 hk1) lk_6_84 rfl rfl (by decide) (by decide) rfl rfl (Nat.le_of_ble_eq_true rfl) dX6_findOne_17 (fun v17 I17 L17 q17 => ?_)
        obtain ⟨rfl, rfl, f17⟩ := q17
        rw [ew]
        refine r_if_eq 33 dX6_findOne_20 (by decide) (fun h20 => ?_) (fun h20 => absurd h20 (not_not_intro (fd_b0.mpr hw)))
        refine r_iinc (v := _ + 1) (lv' := [(2, _), (0, _), (1, _)]) dX6_findOne_33 rfl rfl (Nat.le_of_ble_eq_true rfl) rfl ?_
        refine r_goto (tgt := 2) dX6_findOne_36 (by decide) ?_
        rw [nI_1]
        refine r_keep [2, 0, 1] rfl (ih hk1 _ (fun a a1 a2 => (f17 a a1 a2).trans (g1 a a1 a2)) (fun c hc => ?_))
        by_cases e : c = k
        · rw [e]; exact Bool.eq_false_iff.mpr hw
        · exact g2 c (by omega)
  refine r_iconst (v := 0) dX6_findOne_0 rfl ?_
  refine r_istore_n (lv' := [(2, _), (0, _), (1, _)]) dX6_findOne_1 (Nat.le_of_ble_eq_true rfl) rfl ?_
  exact r_keep [2, 0, 1] rfl (loop 0 (by omega) I (fun _ _ _ => rfl) (fun c hc => by omega))
def f2P (V : pV) (n nn nt : Nat) (p : Nat → Nat) (I : fdI) (L : fdL) (v : Value) (I' : fdI) (L' : fdL) : Prop := L' = L ∧ fnF I I' ∧ ((v = .int 1 ∧ ∃ a b, a < b ∧ b < 6 * n ∧ w2N V n nn nt p a b = true ∧ (∀ a', a' < a → ∀ b', a' < b' → b' < 6 * n → w2N V n nn nt p a' b' = false) ∧ (∀ b', a < b' → b' < b → w2N V n nn nt p a b' = false) ∧ I' 68 = fd_up (fd_up I 68 1 (nI (nmC a))) 68 2 (nI (nmC b)) 68) ∨ (v = .int 0 ∧ (∀ a b, a < b → b < 6 * n → w2N V n nn nt p a b = false) ∧ I' 68 = I 68))
theorem c_X6_findTwo (V : pV) (α : Nat → Nat) (I : fdI) (L : fdL) {n nn nt : Nat} {p q : Nat → Nat} (hn7 : 1 ≤ n ∧ n ≤ 7) (hnt : nt ≤ 3) (h : lkX V n nn I) (hq : isP q n) (ho : orX n q I) (hr : srX V n nt p I) : Con fd_SX α yX6_findTwo mX6_findTwo [.ref (α 68), .ref (α 57)] I L (fd_ip (f2P V n nn nt p I L)) := by
  refine Con.of (by decide) rfl (Nat.le_of_ble_eq_true rfl) ?_
  have loop : ∀ k, k ≤ 6 * n → ∀ I1 : fdI, (∀ a, a ≠ 66 → a ≠ 67 → I1 a = I a) → (∀ a', a' < k → ∀ b', a' < b' → b' < 6 * n → w2N V n nn nt p a' b' = false) → Rn fd_SX α mX6_findTwo 2 [(2, .int (nI k)), (0, .ref (α 68)), (1, .ref (α 57))] [] I1 L (fd_ip (f2P V n nn nt p I L)) := by
    refine fd_down (fun k hk ih => ?_)
    intro I1 g1 g2
    have l1 : lkX V n nn I1 := h.same (fun a ha => g1 a (by omega) (by omega))
    by_cases hx : k = 6 * n
    · refine r_iload_n dX6_findTwo_2 rfl ?_
      refine r_aload_n dX6_findTwo_3 rfl ?_
      refine r_getV rfl rfl fl_6_77 dX6_findTwo_4 l1.1 ?_
      refine r_bipush (v := 6) dX6_findTwo_7 rfl ?_
      refine r_imul dX6_findTwo_9 ?_
      rw [nI_mul6]
      refine r_icmp_ge 68 dX6_findTwo_10 (by decide) (fun h10 => ?_) (fun h10 => absurd h10 (not_not_intro (by rw [hx]; exact Int32.le_refl _)))
      refine r_iconst (v := 0) dX6_findTwo_68 rfl ?_
      refine r_zret rfl (by decide) dX6_findTwo_69 ?_
      exact ⟨_, rfl, rfl, fun a a1 a2 _ => g1 a a1 a2, Or.inr ⟨rfl, fun a b hab hb => g2 a (by omega) b hab hb, g1 68 (by decide) (by decide)⟩⟩
    · have hk1 : k < 6 * n := by omega
      have inner : ∀ m b, m + b = 6 * n → k < b → ∀ I2 : fdI, (∀ a, a ≠ 66 → a ≠ 67 → I2 a = I a) → (∀ b', k < b' → b' < b → w2N V n nn nt p k b' = false) → Rn fd_SX α mX6_findTwo 17 [(3, .int (nI b)), (2, .int (nI k)), (0, .ref (α 68)), (1, .ref (α 57))] [] I2 L (fd_ip (f2P V n nn nt p I L)) := by
        intro m
        induction m with
        | zero =>
          intro b hb hkb I2 j1 j2
          have l2 : lkX V n nn I2 := h.same (fun a ha => j1 a (by omega) (by omega))
          refine r_iload_n dX6_findTwo_17 rfl ?_
          refine r_aload_n dX6_findTwo_18 rfl ?_
          refine r_getV rfl rfl fl_6_77 dX6_findTwo_19 l2.1 ?_
          refine r_bipush (v := 6) dX6_findTwo_22 rfl ?_
          refine r_imul dX6_findTwo_24 ?_
          rw [nI_mul6]
          refine r_icmp_ge 62 dX6_findTwo_25 (by decide) (fun h25 => ?_) (fun h25 => absurd h25 (not_not_intro (by rw [show b = 6 * n by omega]; exact Int32.le_refl _)))
          refine r_iinc (v := _ + 1) (lv' := [(2, _), (3, _), (0, _), (1, _)]) dX6_findTwo_62 rfl rfl (Nat.le_of_ble_eq_true rfl) rfl ?_
          refine r_goto (tgt := 2) dX6_findTwo_65 (by decide) ?_
          rw [nI_1]
          refine r_keep [2, 0, 1] rfl (ih hk1 I2 j1 (fun a' ha' b' hab' hb' => ?_))
          by_cases e : a' = k
          · rw [e]; exact j2 b' (by omega) (by omega)
          · exact g2 a' (by omega) b' hab' hb'
        | succ m ihm =>
          intro b hb hkb I2 j1 j2
          have hb1 : b < 6 * n := by omega
          have l2 : lkX V n nn I2 := h.same (fun a ha => j1 a (by omega) (by omega))
          by_cases hw : w2N V n nn nt p k b = true
          · refine r_iload_n dX6_findTwo_17 rfl ?_
            refine r_aload_n dX6_findTwo_18 rfl ?_
            refine r_getV rfl rfl fl_6_77 dX6_findTwo_19 l2.1 ?_
            refine r_bipush (v := 6) dX6_findTwo_22 rfl ?_
            refine r_imul dX6_findTwo_24 ?_
            rw [nI_mul6]
            refine r_icmp_ge 62 dX6_findTwo_25 (by decide) (fun h25 => absurd h25 (fun q => absurd ((nI_leI (by omega) (by omega)).mp q) (by omega))) (fun h25 => ?_)
            refine r_aload_n dX6_findTwo_28 rfl ?_
            refine r_aload_n dX6_findTwo_29 rfl ?_
            refine r_iload_n dX6_findTwo_30 rfl ?_
            refine r_iload_n dX6_findTwo_31 rfl ?_
            refine r_cVp (As := [_, _, _]) (c_X6_wellWith V (noN V nn) α _ _ k b hn7 hnt l2 hq (fun x hx => by rw [j1 58 (by decide) (by decide)]; exact ho x hx) (fnF.sr hr j1) hk1 hb1) lk_6_84 rfl rfl (by decide) (by decide) rfl rfl (Nat.le_of_ble_eq_true rfl) dX6_findTwo_32 (fun v32 I32 L32 q32 => ?_)
            obtain ⟨rfl, rfl, f32⟩ := q32
            refine r_if_eq 56 dX6_findTwo_35 (by decide) (fun h35 => absurd h35 (fd_bn.mpr hw)) (fun h35 => ?_)
            refine r_aload_n dX6_findTwo_38 rfl ?_
            refine r_iload_n dX6_findTwo_39 rfl ?_
            refine r_cSr (As := [_]) (c_X6_named α _ _ k (by omega)) lk_6_88 (by decide) (by decide) rfl rfl (Nat.le_of_ble_eq_true rfl) dX6_findTwo_40 ?_
            refine r_putI rfl rfl fl_6_24 fw_6_1 dX6_findTwo_43 ?_
            refine r_aload_n dX6_findTwo_46 rfl ?_
            refine r_iload_n dX6_findTwo_47 rfl ?_
            refine r_cSr (As := [_]) (c_X6_named α _ _ b (by omega)) lk_6_88 (by decide) (by decide) rfl rfl (Nat.le_of_ble_eq_true rfl) dX6_findTwo_48 ?_
            refine r_putI rfl rfl fl_6_27 fw_6_2 dX6_findTwo_51 ?_
            refine r_iconst (v := 1) dX6_findTwo_54 rfl ?_
            refine r_zret rfl (by decide) dX6_findTwo_55 ?_
            refine ⟨_, rfl, rfl, fun a a1 a2 a3 => by rw [fd_up_cell a3, fd_up_cell a3, f32 a a1 a2]; exact j1 a a1 a2, Or.inl ⟨rfl, k, b, hkb, hb1, hw, g2, j2, ?_⟩⟩
            funext d
            rw [fd_up_at, fd_up_at, fd_up_at, fd_up_at, f32 68 (by decide) (by decide), j1 68 (by decide) (by decide)]
          · refine r_iload_n dX6_findTwo_17 rfl ?_
            refine r_aload_n dX6_findTwo_18 rfl ?_
            refine r_getV rfl rfl fl_6_77 dX6_findTwo_19 l2.1 ?_
            refine r_bipush (v := 6) dX6_findTwo_22 rfl ?_
            refine r_imul dX6_findTwo_24 ?_
            rw [nI_mul6]
            refine r_icmp_ge 62 dX6_findTwo_25 (by decide) (fun h25 => absurd h25 (fun q => absurd ((nI_leI (by omega) (by omega)).mp q) (by omega))) (fun h25 => ?_)
            refine r_aload_n dX6_findTwo_28 rfl ?_
            refine r_aload_n dX6_findTwo_29 rfl ?_
            refine r_iload_n dX6_findTwo_30 rfl ?_
            refine r_iload_n dX6_findTwo_31 rfl ?_
            refine r_cVp (As := [_, _, _]) (c_X6_wellWith V (noN V nn) α _ _ k b hn7 hnt l2 hq (fun x hx => by rw [j1 58 (by decide) (by decide)]; exact ho x hx) (fnF.sr hr j1) hk1 hb1) lk_6_84 rfl rfl (by decide) (by decide) rfl rfl (Nat.le_of_ble_eq_true rfl) dX6_findTwo_32 (fun v32 I32 L32 q32 => ?_)
            obtain ⟨rfl, rfl, f32⟩ := q32
            refine r_if_eq 56 dX6_findTwo_35 (by decide) (fun h35 => ?_) (fun h35 => absurd h35 (not_not_intro (fd_b0.mpr hw)))
            refine r_iinc (v := _ + 1) (lv' := [(3, _), (2, _), (0, _), (1, _)]) dX6_findTwo_56 rfl rfl (Nat.le_of_ble_eq_true rfl) rfl ?_
            refine r_goto (tgt := 17) dX6_findTwo_59 (by decide) ?_
            rw [nI_1]
            refine r_keep [3, 2, 0, 1] rfl (ihm (b + 1) (by omega) (by omega) _ (fun a a1 a2 => (f32 a a1 a2).trans (j1 a a1 a2)) (fun b' h1 h2 => ?_))
            by_cases e : b' = b
            · rw [e]; exact Bool.eq_false_iff.mpr hw
            · exact j2 b' h1 (by omega)
      refine r_iload_n dX6_findTwo_2 rfl ?_
      refine r_aload_n dX6_findTwo_3 rfl ?_
      refine r_getV rfl rfl fl_6_77 dX6_findTwo_4 l1.1 ?_
      refine r_bipush (v := 6) dX6_findTwo_7 rfl ?_
      refine r_imul dX6_findTwo_9 ?_
      rw [nI_mul6]
      refine r_icmp_ge 68 dX6_findTwo_10 (by decide) (fun h10 => absurd h10 (fun q => absurd ((nI_leI (by omega) (by omega)).mp q) (by omega))) (fun h10 => ?_)
      refine r_iload_n dX6_findTwo_13 rfl ?_
      refine r_iconst (v := 1) dX6_findTwo_14 rfl ?_
      refine r_iadd dX6_findTwo_15 ?_
      rw [nI_1]
      refine r_istore_n (lv' := [(3, _), (2, _), (0, _), (1, _)]) dX6_findTwo_16 (Nat.le_of_ble_eq_true rfl) rfl ?_
      exact r_keep [3, 2, 0, 1] rfl (inner (6 * n - (k + 1)) (k + 1) (by omega) (by omega) I1 g1 (fun b' h1 h2 => by omega))
  refine r_iconst (v := 0) dX6_findTwo_0 rfl ?_
  refine r_istore_n (lv' := [(2, _), (0, _), (1, _)]) dX6_findTwo_1 (Nat.le_of_ble_eq_true rfl) rfl ?_
  exact r_keep [2, 0, 1] rfl (loop 0 (by omega) I (fun _ _ _ => rfl) (fun c hc => by omega))
/-- behind the keeping of rows: the course stands on some order -/
def krP (s : pS) (p : Nat → Nat) (I : fdI) (L : fdL) (I' : fdI) (L' : fdL) : Prop := L' = L ∧ (∀ a, a < 57 ∨ a = 76 → I' a = I a) ∧ lkX s.1 s.2.1 s.2.2.1 I' ∧ (∃ q, isP q s.2.1 ∧ orX s.2.1 q I') ∧ srX s.1 s.2.1 s.2.2.2.2.1 p I'
theorem c_X6_keepRows (s : pS) (α : Nat → Nat) (I : fdI) (L : fdL) {p : Nat → Nat} (hs : stOk s) (hx : xSt 8 s I) (hp : isP p s.2.1) (hc : crX s.1 s.2.1 s.2.2.1 p I) (hl : lvX s.1 s.2.1 s.2.2.1 p I) : Con fd_SX α yX6_keepRows mX6_keepRows [.ref (α 68), .ref (α 8), .ref (α 57)] I L (fd_vp (krP s p I L)) := by
  refine Con.of (by decide) rfl (Nat.le_of_ble_eq_true rfl) ?_
  have hn7 := hs.n7
  have hnt := hs.num.2.2.1
  have loop : ∀ k, k ≤ s.2.2.2.2.1 → ∀ I1 : fdI, (∀ a, a < 57 ∨ a = 76 → I1 a = I a) → lkX s.1 s.2.1 s.2.2.1 I1 → (∃ q, isP q s.2.1 ∧ orX s.2.1 q I1) → (∀ i, i < k + 1 → ∀ d, d < s.2.1 → I1 (70 + i) d = rwB s.1 s.2.1 p i d) → Rn fd_SX α mX6_keepRows 19 [(3, .int (nI k)), (0, .ref (α 68)), (1, .ref (α 8)), (2, .ref (α 57))] [] I1 L (fd_vp (krP s p I L)) := by
    refine fd_down (fun k hk ih => ?_)
    intro I1 g1 l1 o1 r1
    have x1 : xSt 8 s I1 := hx.same (fun a _ a2 => g1 a (by omega))
    by_cases hx2 : k = s.2.2.2.2.1
    · refine r_iload_n dX6_keepRows_19 rfl ?_
      refine r_aload_n dX6_keepRows_20 rfl ?_
      refine r_getV rfl rfl fl_6_57 dX6_keepRows_21 x1.num.2.2.1 ?_
      refine r_icmp_ge 66 dX6_keepRows_24 (by decide) (fun h24 => ?_) (fun h24 => absurd h24 (not_not_intro (by rw [hx2]; exact Int32.le_refl _)))
      refine r_aload_n dX6_keepRows_66 rfl ?_
      refine r_aload_n dX6_keepRows_67 rfl ?_
      refine r_getV rfl rfl fl_6_57 dX6_keepRows_68 x1.num.2.2.1 ?_
      refine r_iconst (v := 1) dX6_keepRows_71 rfl ?_
      refine r_iadd dX6_keepRows_72 ?_
      rw [nI_1]
      refine r_putI rfl rfl fl_6_70 fw_6_3 dX6_keepRows_73 ?_
      refine r_vret rfl dX6_keepRows_76 ?_
      refine ⟨rfl, rfl, fun a ha => (fd_up_cell (by omega)).trans (g1 a ha), l1.same (fun a ha => fd_up_cell (by omega)), ?_, fd_up_same, fun i hi d hd => ?_⟩
      · obtain ⟨q, q1, q2⟩ := o1
        exact ⟨q, q1, fun k hk => by rw [fd_up_ne (by decide)]; exact q2 k hk⟩
      · rw [fd_up_cell (by omega)]; exact r1 i (by omega) d hd
    · have hk1 : k < s.2.2.2.2.1 := by omega
      obtain ⟨r, hr, er⟩ := dayP_nI (hs.v.2.2.2 k hk1)
      have e18 : I1 18 k = nI r := (show I1 18 k = s.1 10 k from x1.agr.2.2.2 k hk1).trans er
      have ec : (s.1 10 k).toNatClampNeg = r := by rw [er, nI_clamp (fac_31 hn7.2 hr)]
      have hP := prm_P hn7 hr
      refine r_iload_n dX6_keepRows_19 rfl ?_
      refine r_aload_n dX6_keepRows_20 rfl ?_
      refine r_getV rfl rfl fl_6_57 dX6_keepRows_21 x1.num.2.2.1 ?_
      refine r_icmp_ge 66 dX6_keepRows_24 (by decide) (fun h24 => absurd h24 (fun q => absurd ((nI_leI (by omega) (by omega)).mp q) (by omega))) (fun h24 => ?_)
      refine r_aload_n dX6_keepRows_27 rfl ?_
      refine r_aload_n dX6_keepRows_28 rfl ?_
      refine r_getR rfl rfl fl_6_60 dX6_keepRows_29 ?_
      refine r_iload_n dX6_keepRows_32 rfl ?_
      refine r_ialdN rfl dX6_keepRows_33 (by omega) (by omega) e18 ?_
      refine r_cVq (As := [_]) (c_X2_goTo α _ _ r l1.1 hn7 hr) lk_6_63 rfl rfl (by decide) (by decide) rfl rfl (Nat.le_of_ble_eq_true rfl) dX6_keepRows_34 (fun I34 L34 q34 => ?_)
      obtain ⟨rfl, f34, o34, p34⟩ := q34
      have l34 := l1.same (J := I34) (fun a ha => f34 a (by omega) (by omega))
      refine r_aload_n dX6_keepRows_37 rfl ?_
      refine r_cVq (As := []) (c_X2_liveThrough s.1 α _ _ hn7 hs.nd hP l34 o34) lk_6_67 rfl rfl (by decide) (by decide) rfl rfl (Nat.le_of_ble_eq_true rfl) dX6_keepRows_38 (fun I38 L38 q38 => ?_)
      obtain ⟨rfl, f38, v38⟩ := q38
      refine r_aload_n dX6_keepRows_41 rfl ?_
      refine r_getR rfl rfl fl_6_45 dX6_keepRows_42 ?_
      refine r_iconst (v := 0) dX6_keepRows_45 rfl ?_
      refine r_aload_n dX6_keepRows_46 rfl ?_
      refine r_getR rfl rfl fl_6_11 dX6_keepRows_47 ?_
      refine r_iload_n dX6_keepRows_50 rfl ?_
      refine r_iconst (v := 1) dX6_keepRows_51 rfl ?_
      refine r_iadd dX6_keepRows_52 ?_
      rw [nI_1]
      refine r_aaldA rfl dX6_keepRows_53 (dayP_in (nI_dayP (show k + 1 < 4 by omega) (by decide))) (srC (k + 1) (by omega)) ?_
      refine r_iconst (v := 0) dX6_keepRows_54 rfl ?_
      refine r_bipush (v := 7) dX6_keepRows_55 rfl ?_
      have hS2 := srS (k + 1) (by omega)
      refine r_copy rfl hS2 (fun _ => rfl) rfl (fd_in 757 (by decide +kernel) (by decide +kernel)) (fd_in 574 (by decide +kernel) (by decide +kernel)) (fd_in 573 (by decide +kernel) (by decide +kernel)) (fd_in 77 (by decide +kernel) (by decide +kernel)) (by decide) (by decide) (by decide) (by decide) (by decide) (fun _ _ => rfl) (by decide) (by decide) dX6_keepRows_57 ?_
      rw [show (0 : Int32).toNatClampNeg = 0 from rfl, show (7 : Int32).toNatClampNeg = 7 from rfl]
      refine r_iinc (v := _ + 1) (lv' := [(3, _), (0, _), (1, _), (2, _)]) dX6_keepRows_60 rfl rfl (Nat.le_of_ble_eq_true rfl) rfl ?_
      refine r_goto (tgt := 19) dX6_keepRows_63 (by decide) ?_
      rw [nI_1]
      refine r_keep [3, 0, 1, 2] rfl (ih hk1 _ (fun a ha => ?_) ?_ ⟨_, hP, fun x hx => ?_⟩ (fun i hi d hd => ?_))
      · rw [fd_row_ne (by omega), f38 a (by omega), f34 a (by omega) (by omega)]; exact g1 a ha
      · exact l34.same (fun a ha => by rw [fd_row_ne (by omega)]; exact f38 a (by omega))
      · rw [fd_row_ne (by omega), f38 58 (by decide)]; exact o34 x hx
      · by_cases e : i = k + 1
        · rw [e, fd_row_same]
          unfold va_cpy
          rw [if_pos (by omega), Nat.zero_add, Nat.sub_zero, (v38 d hd).1]
          show _ = BV s.1 (prm s.2.1 (s.1 10 k).toNatClampNeg) s.2.1 d
          rw [ec]
        · rw [fd_row_ne (by omega), f38 (70 + i) (by omega), f34 (70 + i) (by omega) (by omega)]
          exact r1 i (by omega) d hd
  refine r_aload_n dX6_keepRows_0 rfl ?_
  refine r_getR rfl rfl fl_6_45 dX6_keepRows_1 ?_
  refine r_iconst (v := 0) dX6_keepRows_4 rfl ?_
  refine r_aload_n dX6_keepRows_5 rfl ?_
  refine r_getR rfl rfl fl_6_11 dX6_keepRows_6 ?_
  refine r_iconst (v := 0) dX6_keepRows_9 rfl ?_
  refine r_aaldA rfl dX6_keepRows_10 (vp_in_iff.mpr (by decide)) rfl ?_
  refine r_iconst (v := 0) dX6_keepRows_11 rfl ?_
  refine r_bipush (v := 7) dX6_keepRows_12 rfl ?_
  refine r_copy rfl rfl (fun _ => rfl) rfl (fd_in 757 (by decide +kernel) (by decide +kernel)) (fd_in 574 (by decide +kernel) (by decide +kernel)) (fd_in 573 (by decide +kernel) (by decide +kernel)) (fd_in 77 (by decide +kernel) (by decide +kernel)) (by decide) (by decide) (by decide) (by decide) (by decide) (fun _ _ => rfl) (by decide) (by decide) dX6_keepRows_14 ?_
  rw [show (0 : Int32).toNatClampNeg = 0 from rfl, show (7 : Int32).toNatClampNeg = 7 from rfl]
  refine r_iconst (v := 0) dX6_keepRows_17 rfl ?_
  refine r_istore_n (lv' := [(3, _), (0, _), (1, _), (2, _)]) dX6_keepRows_18 (Nat.le_of_ble_eq_true rfl) rfl ?_
  refine r_keep [3, 0, 1, 2] rfl (loop 0 (by omega) _ (fun a ha => fd_row_ne (by omega)) (hc.1.same (fun a ha => fd_row_ne (by omega))) ⟨p, hp, fun x hx => by rw [fd_row_ne (by decide)]; exact hc.2.1 x hx⟩ (fun i hi d hd => ?_))
  rw [show i = 0 by omega, fd_row_same]
  unfold va_cpy
  rw [if_pos (by omega), Nat.zero_add, Nat.sub_zero]
  exact (hl d hd).1
