/-! the model: orders and ranks -/
theorem nbf {a b : Nat} (h : a ≠ b) : Nat.beq a b = false := Bool.eq_false_iff.mpr fun q => h (Nat.eq_of_beq_eq_true q)
theorem nI_and (a b : Nat) : nI a &&& nI b = nI (a &&& b) := by
  apply Int32.toBitVec_inj.mp
  show BitVec.ofNat 32 a &&& BitVec.ofNat 32 b = BitVec.ofNat 32 (a &&& b)
  apply BitVec.eq_of_toNat_eq
  simp [BitVec.toNat_and, BitVec.toNat_ofNat, Nat.and_mod_two_pow]
theorem nI_or (a b : Nat) : nI a ||| nI b = nI (a ||| b) := by
  apply Int32.toBitVec_inj.mp
  show BitVec.ofNat 32 a ||| BitVec.ofNat 32 b = BitVec.ofNat 32 (a ||| b)
  apply BitVec.eq_of_toNat_eq
  simp [BitVec.toNat_or, BitVec.toNat_ofNat, Nat.or_mod_two_pow]
theorem nI_and1 (a : Nat) : nI a &&& 1 = nI (a % 2) := by
  rw [show (1 : Int32) = nI 1 from rfl, nI_and, Nat.and_one_is_mod]
theorem sh_k : ∀ k, k < 32 → ((nI k &&& 31).toBitVec.smod 32).toNat = k := by decide +kernel
theorem nI_shr {n k : Nat} (h : n < 2 ^ 31) (hk : k < 32) : nI n >>> (nI k &&& 31) = nI (n / 2 ^ k) := pk_shrN h _ _ (sh_k k hk)
theorem nI_shl {n k : Nat} (hk : k < 32) (h : n * 2 ^ k < 2 ^ 32) : nI n <<< (nI k &&& 31) = nI (n * 2 ^ k) := pk_shlN _ _ (sh_k k hk) h
theorem nI_shl1 {k : Nat} (hk : k < 31) : (1 : Int32) <<< (nI k &&& 31) = nI (2 ^ k) := by
  rw [show (1 : Int32) = nI 1 from rfl, nI_shl (by omega) (by rw [Nat.one_mul]; exact Nat.pow_lt_pow_right (by omega) (by omega)), Nat.one_mul]
theorem c_X11_rowOf (α : Nat → Nat) (I : fdI) (L : fdL) (kr r : Nat) (hS : fd_SM[kr]? = some (.inr (.inl (0, 7)))) (hkr : kr ≠ 0) {n : Nat} (hn : I 0 1 = nI n) (hn7 : 1 ≤ n ∧ n ≤ 7) (hr : r < fac n) : Con fd_SM α yX11_rowOf mX11_rowOf [.ref (α 0), .int (nI r), .ref (α kr)] I L (fd_vp (fun I' L' => L' = L ∧ (∀ a, a ≠ kr → I' a = I a) ∧ ∀ k, k < n → I' kr k = nI (prm n r k))) := by
  refine Con.of (by decide) rfl (Nat.le_of_ble_eq_true rfl) ?_
  have loop : ∀ m left size met k, m + k = n → rwGd m left size met = true → ∀ I1 : fdI, (∀ a, a ≠ kr → I1 a = I a) → (∀ i, i < k → I1 kr i = nI (prm n r i)) → (∀ i, i < m → gtL (rwP m left size met) i = prm n r (k + i)) →
      Rn fd_SM α mX11_rowOf 14 [(6, .int (nI k)), (5, .int (nI met)), (4, .int (nI size)), (3, .int (nI left)), (0, .ref (α 0)), (2, .ref (α kr))] [] I1 L (fd_vp (fun I' L' => L' = L ∧ (∀ a, a ≠ kr → I' a = I a) ∧ ∀ k, k < n → I' kr k = nI (prm n r k))) := by
    intro m
    induction m with
    | zero =>
      intro left size met k hk hg I1 g1 g2 g3
      have hd : I1 0 1 = nI n := by rw [g1 0 (fun q => hkr q.symm)]; exact hn
      have e : k = n := by omega
      subst e
      refine r_iload dX11_rowOf_14 rfl ?_
      refine r_aload_n dX11_rowOf_16 rfl ?_
      refine r_getV rfl rfl fl_11_93 dX11_rowOf_17 hd ?_
      refine r_icmp_ge 113 dX11_rowOf_20 (by decide) (fun h20 => ?_) (fun h20 => absurd h20 (not_not_intro (Int32.le_refl _)))
      refine r_vret rfl dX11_rowOf_113 ?_
      exact ⟨rfl, rfl, g1, g2⟩
    | succ m ih =>
      intro left size met k hk hg I1 g1 g2 g3
      have hd : I1 0 1 = nI n := by rw [g1 0 (fun q => hkr q.symm)]; exact hn
      unfold rwGd at hg
      simp only [Bool.and_eq_true] at hg
      obtain ⟨q1, q2, q3, q4, q5, q6⟩ := hg
      have q1 := Nat.le_of_ble_eq_true q1
      have q2 := Nat.le_of_ble_eq_true q2
      have q3 := Nat.le_of_ble_eq_true q3
      have q4 := Nat.le_of_ble_eq_true q4
      have hsz : size / (m + 1) ≤ size := Nat.div_le_self _ _
      have enk : nI n - nI k = nI (m + 1) := by rw [pk_sub (by omega)]; congr 1; omega
      have hlm : left % (size / (m + 1)) < size / (m + 1) := Nat.mod_lt _ (by omega)
      -- the place that is found
      have found : ∀ d, d = rwI met 8 (left / (size / (m + 1))) 0 → d ≤ 6 → Rn fd_SM α mX11_rowOf 92 [(8, .int (nI d)), (6, .int (nI k)), (5, .int (nI met)), (4, .int (nI (size / (m + 1)))), (3, .int (nI (left % (size / (m + 1))))), (0, .ref (α 0)), (2, .ref (α kr))] [] I1 L (fd_vp (fun I' L' => L' = L ∧ (∀ a, a ≠ kr → I' a = I a) ∧ ∀ k, k < n → I' kr k = nI (prm n r k))) := by
        intro d hd2 hd6
        have e0 : prm n r k = d := by
          have := g3 0 (by omega)
          rw [Nat.add_zero] at this
          exact this.symm.trans hd2.symm
        refine r_iload dX11_rowOf_92 rfl ?_
        refine r_iconst (v := 1) dX11_rowOf_94 rfl ?_
        refine r_iload dX11_rowOf_95 rfl ?_
        refine r_ishl dX11_rowOf_97 ?_
        rw [nI_shl1 (by omega)]
        refine r_ior dX11_rowOf_98 ?_
        rw [nI_or]
        refine r_istore (lv' := [(5, _), (8, _), (6, _), (4, _), (3, _), (0, _), (2, _)]) dX11_rowOf_99 (Nat.le_of_ble_eq_true rfl) rfl ?_
        refine r_aload_n dX11_rowOf_101 rfl ?_
        refine r_iload dX11_rowOf_102 rfl ?_
        refine r_iload dX11_rowOf_104 rfl ?_
        refine r_iastN hS dX11_rowOf_106 (by omega) (by omega) ?_
        refine r_iinc (v := _ + 1) (lv' := [(6, _), (5, _), (8, _), (4, _), (3, _), (0, _), (2, _)]) dX11_rowOf_107 rfl rfl (Nat.le_of_ble_eq_true rfl) rfl ?_
        refine r_goto (tgt := 14) dX11_rowOf_110 (by decide) ?_
        rw [nI_1]
        refine r_keep [6, 5, 4, 3, 0, 2] rfl ?_
        refine ih _ _ _ (k + 1) (by omega) (by rw [hd2]; exact q6) _ (fun a ha => by rw [fd_up_cell ha]; exact g1 a ha) (fun i hi => ?_) (fun i hi => ?_)
        · rw [fd_up_at]
          split
          · next e => rw [e, e0]
          · exact g2 i (by omega)
        · have := g3 (i + 1) (by omega)
          rw [show k + (i + 1) = k + 1 + i by omega] at this
          rw [← this, hd2]
          rfl
      have inner : ∀ f skip d, skip ≤ 5040 → rwG met f skip d = true → rwI met f skip d = rwI met 8 (left / (size / (m + 1))) 0 → Rn fd_SM α mX11_rowOf 49 [(8, .int (nI d)), (7, .int (nI skip)), (6, .int (nI k)), (5, .int (nI met)), (4, .int (nI (size / (m + 1)))), (3, .int (nI (left % (size / (m + 1))))), (0, .ref (α 0)), (2, .ref (α kr))] [] I1 L (fd_vp (fun I' L' => L' = L ∧ (∀ a, a ≠ kr → I' a = I a) ∧ ∀ k, k < n → I' kr k = nI (prm n r k))) := by
        intro f
        induction f with
        | zero => intro skip d _ h; cases h
        | succ f ihf =>
          intro skip d hs hg2 he
          unfold rwG at hg2
          rw [Bool.and_eq_true] at hg2
          obtain ⟨w1, w2⟩ := hg2
          have w1 := Nat.le_of_ble_eq_true w1
          have hm : met < 2 ^ 31 := by omega
          by_cases hb : met / 2 ^ d % 2 = 1
          · have eb : Nat.beq (met / 2 ^ d % 2) 1 = true := by rw [hb]; rfl
            rw [eb] at w2
            have he2 : rwI met f skip (d + 1) = rwI met 8 (left / (size / (m + 1))) 0 := by
              rw [← he]
              show _ = bif _ then _ else _
              rw [eb]
              rfl
            refine r_iload dX11_rowOf_49 rfl ?_
            refine r_iload dX11_rowOf_51 rfl ?_
            refine r_ishr dX11_rowOf_53 ?_
            rw [nI_shr hm (by omega)]
            refine r_iconst (v := 1) dX11_rowOf_54 rfl ?_
            refine r_iand dX11_rowOf_55 ?_
            rw [nI_and1]
            refine r_iconst (v := 1) dX11_rowOf_56 rfl ?_
            refine r_icmp_eq 65 dX11_rowOf_57 (by decide) (fun h57 => ?_) (fun h57 => absurd h57 (not_not_intro (by rw [hb]; rfl)))
            refine r_iload dX11_rowOf_65 rfl ?_
            refine r_iload dX11_rowOf_67 rfl ?_
            refine r_iload dX11_rowOf_69 rfl ?_
            refine r_ishr dX11_rowOf_71 ?_
            rw [nI_shr hm (by omega)]
            refine r_iconst (v := 1) dX11_rowOf_72 rfl ?_
            refine r_iand dX11_rowOf_73 ?_
            rw [nI_and1]
            refine r_iconst (v := 1) dX11_rowOf_74 rfl ?_
            refine r_icmp_ne 82 dX11_rowOf_75 (by decide) (fun h75 => absurd h75 (not_not_intro (by rw [hb]; rfl))) (fun h75 => ?_)
            refine r_iconst (v := 0) dX11_rowOf_78 rfl ?_
            refine r_goto (tgt := 83) dX11_rowOf_79 (by decide) ?_
            refine r_isub dX11_rowOf_83 ?_
            rw [Int32.sub_zero]
            refine r_istore (lv' := [(7, _), (8, _), (6, _), (5, _), (4, _), (3, _), (0, _), (2, _)]) dX11_rowOf_84 (Nat.le_of_ble_eq_true rfl) rfl ?_
            refine r_iinc (v := _ + 1) (lv' := [(8, _), (7, _), (6, _), (5, _), (4, _), (3, _), (0, _), (2, _)]) dX11_rowOf_86 rfl rfl (Nat.le_of_ble_eq_true rfl) rfl ?_
            refine r_goto (tgt := 49) dX11_rowOf_89 (by decide) ?_
            rw [nI_1]
            exact r_keep [8, 7, 6, 5, 4, 3, 0, 2] rfl (ihf skip (d + 1) hs w2 he2)
          · have eb : Nat.beq (met / 2 ^ d % 2) 1 = false := by
              rw [show met / 2 ^ d % 2 = 0 by omega]
              rfl
            have hb0 : met / 2 ^ d % 2 = 0 := by omega
            rw [eb] at w2
            by_cases hk0 : skip = 0
            · subst hk0
              have he2 : rwI met (f + 1) 0 d = d := by
                show (bif _ then _ else _) = _
                rw [eb]
                rfl
              rw [he2] at he
              refine r_iload dX11_rowOf_49 rfl ?_
              refine r_iload dX11_rowOf_51 rfl ?_
              refine r_ishr dX11_rowOf_53 ?_
              rw [nI_shr hm (by omega)]
              refine r_iconst (v := 1) dX11_rowOf_54 rfl ?_
              refine r_iand dX11_rowOf_55 ?_
              rw [nI_and1]
              refine r_iconst (v := 1) dX11_rowOf_56 rfl ?_
              refine r_icmp_eq 65 dX11_rowOf_57 (by decide) (fun h57 => absurd h57 (by rw [hb0]; decide)) (fun h57 => ?_)
              refine r_iload dX11_rowOf_60 rfl ?_
              refine r_if_le 92 dX11_rowOf_62 (by decide) (fun h62 => ?_) (fun h62 => absurd h62 (not_not_intro (Int32.le_refl _)))
              exact r_keep [8, 6, 5, 4, 3, 0, 2] rfl (found d he w1)
            · obtain ⟨k2, rfl⟩ : ∃ k2, skip = k2 + 1 := ⟨skip - 1, by omega⟩
              have he2 : rwI met f k2 (d + 1) = rwI met 8 (left / (size / (m + 1))) 0 := by
                rw [← he]
                show _ = bif _ then _ else _
                rw [eb]
                rfl
              refine r_iload dX11_rowOf_49 rfl ?_
              refine r_iload dX11_rowOf_51 rfl ?_
              refine r_ishr dX11_rowOf_53 ?_
              rw [nI_shr hm (by omega)]
              refine r_iconst (v := 1) dX11_rowOf_54 rfl ?_
              refine r_iand dX11_rowOf_55 ?_
              rw [nI_and1]
              refine r_iconst (v := 1) dX11_rowOf_56 rfl ?_
              refine r_icmp_eq 65 dX11_rowOf_57 (by decide) (fun h57 => absurd h57 (by rw [hb0]; decide)) (fun h57 => ?_)
              refine r_iload dX11_rowOf_60 rfl ?_
              refine r_if_le 92 dX11_rowOf_62 (by decide) (fun h62 => absurd h62 (nI_nle (by omega) (by omega))) (fun h62 => ?_)
              refine r_iload dX11_rowOf_65 rfl ?_
              refine r_iload dX11_rowOf_67 rfl ?_
              refine r_iload dX11_rowOf_69 rfl ?_
              refine r_ishr dX11_rowOf_71 ?_
              rw [nI_shr hm (by omega)]
              refine r_iconst (v := 1) dX11_rowOf_72 rfl ?_
              refine r_iand dX11_rowOf_73 ?_
              rw [nI_and1]
              refine r_iconst (v := 1) dX11_rowOf_74 rfl ?_
              refine r_icmp_ne 82 dX11_rowOf_75 (by decide) (fun h75 => ?_) (fun h75 => absurd h75 (by rw [hb0]; decide))
              refine r_iconst (v := 1) dX11_rowOf_82 rfl ?_
              refine r_isub dX11_rowOf_83 ?_
              rw [nI_pred]
              refine r_istore (lv' := [(7, _), (8, _), (6, _), (5, _), (4, _), (3, _), (0, _), (2, _)]) dX11_rowOf_84 (Nat.le_of_ble_eq_true rfl) rfl ?_
              refine r_iinc (v := _ + 1) (lv' := [(8, _), (7, _), (6, _), (5, _), (4, _), (3, _), (0, _), (2, _)]) dX11_rowOf_86 rfl rfl (Nat.le_of_ble_eq_true rfl) rfl ?_
              refine r_goto (tgt := 49) dX11_rowOf_89 (by decide) ?_
              rw [nI_1]
              exact r_keep [8, 7, 6, 5, 4, 3, 0, 2] rfl (ihf k2 (d + 1) (by omega) w2 he2)
      refine r_iload dX11_rowOf_14 rfl ?_
      refine r_aload_n dX11_rowOf_16 rfl ?_
      refine r_getV rfl rfl fl_11_93 dX11_rowOf_17 hd ?_
      refine r_icmp_ge 113 dX11_rowOf_20 (by decide) (fun h20 => absurd h20 (fun q => absurd ((nI_leI (by omega) (by omega)).mp q) (by omega))) (fun h20 => ?_)
      refine r_iload dX11_rowOf_23 rfl ?_
      refine r_aload_n dX11_rowOf_25 rfl ?_
      refine r_getV rfl rfl fl_11_93 dX11_rowOf_26 hd ?_
      refine r_iload dX11_rowOf_29 rfl ?_
      refine r_isub dX11_rowOf_31 ?_
      rw [enk]
      refine r_idiv dX11_rowOf_32 (nI_ne0 (by omega) (by omega)) ?_
      rw [pk_div (by omega) (by omega) (by omega)]
      refine r_istore (lv' := [(4, _), (6, _), (5, _), (3, _), (0, _), (2, _)]) dX11_rowOf_33 (Nat.le_of_ble_eq_true rfl) rfl ?_
      refine r_iload_n dX11_rowOf_35 rfl ?_
      refine r_iload dX11_rowOf_36 rfl ?_
      refine r_idiv dX11_rowOf_38 (nI_ne0 (by omega) (by omega)) ?_
      rw [pk_div (by omega) (by omega) (by omega)]
      refine r_istore (lv' := [(7, _), (4, _), (6, _), (5, _), (3, _), (0, _), (2, _)]) dX11_rowOf_39 (Nat.le_of_ble_eq_true rfl) rfl ?_
      refine r_iload_n dX11_rowOf_41 rfl ?_
      refine r_iload dX11_rowOf_42 rfl ?_
      refine r_irem dX11_rowOf_44 (nI_ne0 (by omega) (by omega)) ?_
      rw [pk_rem (by omega) (by omega) (by omega)]
      refine r_istore_n (lv' := [(3, _), (7, _), (4, _), (6, _), (5, _), (0, _), (2, _)]) dX11_rowOf_45 (Nat.le_of_ble_eq_true rfl) rfl ?_
      refine r_iconst (v := 0) dX11_rowOf_46 rfl ?_
      refine r_istore (lv' := [(8, _), (3, _), (7, _), (4, _), (6, _), (5, _), (0, _), (2, _)]) dX11_rowOf_47 (Nat.le_of_ble_eq_true rfl) rfl ?_
      exact r_keep [8, 7, 6, 5, 4, 3, 0, 2] rfl (inner 8 _ 0 (Nat.le_trans (Nat.div_le_self _ _) (by omega)) q5 rfl)
  refine r_iload_n dX11_rowOf_0 rfl ?_
  refine r_istore_n (lv' := [(3, _), (0, _), (1, _), (2, _)]) dX11_rowOf_1 (Nat.le_of_ble_eq_true rfl) rfl ?_
  refine r_aload_n dX11_rowOf_2 rfl ?_
  refine r_cVr (As := []) (c_X11_orders α _ _ hn hn7) lk_11_147 rfl rfl (by decide) (by decide) rfl rfl (Nat.le_of_ble_eq_true rfl) dX11_rowOf_3 ?_
  refine r_istore (lv' := [(4, _), (3, _), (0, _), (1, _), (2, _)]) dX11_rowOf_6 (Nat.le_of_ble_eq_true rfl) rfl ?_
  refine r_iconst (v := 0) dX11_rowOf_8 rfl ?_
  refine r_istore (lv' := [(5, _), (4, _), (3, _), (0, _), (1, _), (2, _)]) dX11_rowOf_9 (Nat.le_of_ble_eq_true rfl) rfl ?_
  refine r_iconst (v := 0) dX11_rowOf_11 rfl ?_
  refine r_istore (lv' := [(6, _), (5, _), (4, _), (3, _), (0, _), (1, _), (2, _)]) dX11_rowOf_12 (Nat.le_of_ble_eq_true rfl) rfl ?_
  refine r_keep [6, 5, 4, 3, 0, 2] rfl (loop n r (fac n) 0 0 (by omega) (gdB hn7 hr).1 I (fun _ _ => rfl) (fun i hi => by omega) (fun i hi => by rw [Nat.zero_add]; rfl))
theorem c_X11_isRank (α : Nat → Nat) (I : fdI) (L : fdL) (r : Int32) {n : Nat} (hn : I 0 1 = nI n) (hn7 : 1 ≤ n ∧ n ≤ 7) : Con fd_SM α yX11_isRank mX11_isRank [.ref (α 0), .int r] I L (fd_is (some (.int (fd_b (dayP r (fac n))))) I L) := by
  have h1 := fac_le hn7.2
  have h2 := fac_pos n
  have e : nI (fac n) - 1 = nI (fac n - 1) := by
    obtain ⟨k, hk⟩ : ∃ k, fac n = k + 1 := ⟨fac n - 1, by omega⟩
    rw [hk, nI_pred, Nat.add_sub_cancel]
  refine Con.of (by decide) rfl (Nat.le_of_ble_eq_true rfl) ?_
  refine r_iload_n dX11_isRank_0 rfl ?_
  refine r_i2l dX11_isRank_1 rfl ?_
  refine r_lconst (v := 0) dX11_isRank_2 rfl ?_
  refine r_aload_n dX11_isRank_3 rfl ?_
  refine r_cVr (As := []) (c_X11_orders α _ _ hn hn7) lk_11_147 rfl rfl (by decide) (by decide) rfl rfl (Nat.le_of_ble_eq_true rfl) dX11_isRank_4 ?_
  refine r_iconst (v := 1) dX11_isRank_7 rfl ?_
  refine r_isub dX11_isRank_8 ?_
  rw [e]
  refine r_i2l dX11_isRank_9 rfl ?_
  refine r_cSr (As := [_, _, _]) (c_inP α _ _ r 0 (nI (fac n - 1)).toInt64 (dayP r (fac n)) (by rw [Int32.toInt_toInt64, nI_toInt (by omega)]; show (0 : Int) ≤ _ ∧ _ ↔ _; unfold dayP; omega)) lk_11_97 (by decide) (by decide) rfl rfl (Nat.le_of_ble_eq_true rfl) dX11_isRank_10 ?_
  refine r_zret rfl (fd_b01 _) dX11_isRank_13 ?_
  exact fd_isI rfl rfl rfl
theorem c_X11_rankOf (α : Nat → Nat) (I : fdI) (L : fdL) (kr : Nat) (hS : fd_SM[kr]? = some (.inr (.inl (0, 7)))) {n : Nat} {p : Nat → Nat} (hn : I 0 1 = nI n) (hn7 : 1 ≤ n ∧ n ≤ 7) (hrow : ∀ k, k < n → I kr k = nI (p k)) (hp : isP p n) : Con fd_SM α yX11_rankOf mX11_rankOf [.ref (α 0), .ref (α kr)] I L (fd_is (some (.int (nI (rkF p n n)))) I L) := by
  refine Con.of (by decide) rfl (Nat.le_of_ble_eq_true rfl) ?_
  have loop : ∀ k, k ≤ n → Rn fd_SM α mX11_rankOf 4 [(3, .int (nI k)), (2, .int (nI (rkF p n k))), (0, .ref (α 0)), (1, .ref (α kr))] [] I L (fd_is (some (.int (nI (rkF p n n)))) I L) := by
    refine fd_down (fun k hk ih => ?_)
    have inner : k < n → ∀ m, m ≤ n - 1 - k → Rn fd_SM α mX11_rankOf 20 [(5, .int (nI (k + 1 + m))), (4, .int (nI (lsF p k m))), (3, .int (nI k)), (2, .int (nI (rkF p n k))), (0, .ref (α 0)), (1, .ref (α kr))] [] I L (fd_is (some (.int (nI (rkF p n n)))) I L) := by
      intro hkn
      refine fd_down (fun m hm ihm => ?_)
      have jn : ∀ v : Int32, nI (lsF p k m) + v = nI (lsF p k (m + 1)) → m < n - 1 - k → Rn fd_SM α mX11_rankOf 46 [(5, .int (nI (k + 1 + m))), (3, .int (nI k)), (2, .int (nI (rkF p n k))), (0, .ref (α 0)), (1, .ref (α kr))] [.int v, .int (nI (lsF p k m))] I L (fd_is (some (.int (nI (rkF p n n)))) I L) := by
        intro v hv hm2
        refine r_iadd dX11_rankOf_46 ?_
        rw [hv]
        refine r_istore (lv' := [(4, _), (5, _), (3, _), (2, _), (0, _), (1, _)]) dX11_rankOf_47 (Nat.le_of_ble_eq_true rfl) rfl ?_
        refine r_iinc (v := _ + 1) (lv' := [(5, _), (4, _), (3, _), (2, _), (0, _), (1, _)]) dX11_rankOf_49 rfl rfl (Nat.le_of_ble_eq_true rfl) rfl ?_
        refine r_goto (tgt := 20) dX11_rankOf_52 (by decide) ?_
        rw [nI_1]
        exact r_keep [5, 4, 3, 2, 0, 1] rfl (ihm hm2)
      refine r_iload dX11_rankOf_20 rfl ?_
      refine r_aload_n dX11_rankOf_22 rfl ?_
      refine r_getV rfl rfl fl_11_93 dX11_rankOf_23 hn ?_
      refine r_icmp_ge 55 dX11_rankOf_26 (by decide) (fun h26 => ?_) (fun h26 => ?_)
      · have hh := (nI_leI (by omega) (by omega)).mp h26
        have e : m = n - 1 - k := by omega
        refine r_iload_n dX11_rankOf_55 rfl ?_
        refine r_aload_n dX11_rankOf_56 rfl ?_
        refine r_getV rfl rfl fl_11_93 dX11_rankOf_57 hn ?_
        refine r_iload_n dX11_rankOf_60 rfl ?_
        refine r_isub dX11_rankOf_61 ?_
        rw [pk_sub (by omega)]
        refine r_imul dX11_rankOf_62 ?_
        rw [pk_mul]
        refine r_iload dX11_rankOf_63 rfl ?_
        refine r_iadd dX11_rankOf_65 ?_
        rw [nI_add, e]
        refine r_istore_n (lv' := [(2, _), (5, _), (4, _), (3, _), (0, _), (1, _)]) dX11_rankOf_66 (Nat.le_of_ble_eq_true rfl) rfl ?_
        refine r_iinc (v := _ + 1) (lv' := [(3, _), (2, _), (5, _), (4, _), (0, _), (1, _)]) dX11_rankOf_67 rfl rfl (Nat.le_of_ble_eq_true rfl) rfl ?_
        refine r_goto (tgt := 4) dX11_rankOf_70 (by decide) ?_
        rw [nI_1]
        exact r_keep [3, 2, 0, 1] rfl (ih hkn)
      · have hh : k + 1 + m < n := Nat.lt_of_not_le fun q => h26 ((nI_leI (by omega) (by omega)).mpr q)
        refine r_iload dX11_rankOf_29 rfl ?_
        refine r_aload_n dX11_rankOf_31 rfl ?_
        refine r_iload dX11_rankOf_32 rfl ?_
        refine r_ialdN hS dX11_rankOf_34 (by omega) (by omega) (hrow _ hh) ?_
        refine r_aload_n dX11_rankOf_35 rfl ?_
        refine r_iload_n dX11_rankOf_36 rfl ?_
        refine r_ialdN hS dX11_rankOf_37 (by omega) (by omega) (hrow _ hkn) ?_
        refine r_icmp_ge 45 dX11_rankOf_38 (by decide) (fun h38 => ?_) (fun h38 => ?_)
        · have hx : ¬ p (k + 1 + m) < p k := by
            have a := hp.1 _ hh
            have b := hp.1 _ hkn
            have := (nI_leI (by omega) (by omega)).mp h38
            omega
          have ev : nI (lsF p k m) + 0 = nI (lsF p k (m + 1)) := by
            rw [Int32.add_zero]
            congr 1
            show _ = bif _ then _ else _
            rw [show Nat.ble (p (k + 1 + m) + 1) (p k) = false from Bool.eq_false_iff.mpr fun q => hx (Nat.le_of_ble_eq_true q)]
            rfl
          refine r_iconst (v := 0) dX11_rankOf_45 rfl ?_
          exact r_keep [5, 3, 2, 0, 1] rfl (jn _ ev (by omega))
        · have hx : p (k + 1 + m) < p k := by
            have a := hp.1 _ hh
            have b := hp.1 _ hkn
            exact Nat.lt_of_not_le fun q => h38 ((nI_leI (by omega) (by omega)).mpr q)
          have ev : nI (lsF p k m) + 1 = nI (lsF p k (m + 1)) := by
            rw [nI_1]
            congr 1
            show _ = bif _ then _ else _
            rw [show Nat.ble (p (k + 1 + m) + 1) (p k) = true from Nat.ble_eq_true_of_le hx]
            rfl
          refine r_iconst (v := 1) dX11_rankOf_41 rfl ?_
          refine r_goto (tgt := 46) dX11_rankOf_42 (by decide) ?_
          exact r_keep [5, 3, 2, 0, 1] rfl (jn _ ev (by omega))
    refine r_iload_n dX11_rankOf_4 rfl ?_
    refine r_aload_n dX11_rankOf_5 rfl ?_
    refine r_getV rfl rfl fl_11_93 dX11_rankOf_6 hn ?_
    refine r_icmp_ge 73 dX11_rankOf_9 (by decide) (fun h9 => ?_) (fun h9 => ?_)
    · have hh := (nI_leI (by omega) (by omega)).mp h9
      have e : k = n := by omega
      subst e
      refine r_iload_n dX11_rankOf_73 rfl ?_
      refine r_iret rfl dX11_rankOf_74 ?_
      exact fd_isI rfl rfl rfl
    · have hh : k < n := Nat.lt_of_not_le fun q => h9 ((nI_leI (by omega) (by omega)).mpr q)
      refine r_iconst (v := 0) dX11_rankOf_12 rfl ?_
      refine r_istore (lv' := [(4, _), (3, _), (2, _), (0, _), (1, _)]) dX11_rankOf_13 (Nat.le_of_ble_eq_true rfl) rfl ?_
      refine r_iload_n dX11_rankOf_15 rfl ?_
      refine r_iconst (v := 1) dX11_rankOf_16 rfl ?_
      refine r_iadd dX11_rankOf_17 ?_
      refine r_istore (lv' := [(5, _), (4, _), (3, _), (2, _), (0, _), (1, _)]) dX11_rankOf_18 (Nat.le_of_ble_eq_true rfl) rfl ?_
      rw [nI_1]
      exact r_keep [5, 4, 3, 2, 0, 1] rfl (inner hh 0 (by omega))
  refine r_iconst (v := 0) dX11_rankOf_0 rfl ?_
  refine r_istore_n (lv' := [(2, _), (0, _), (1, _)]) dX11_rankOf_1 (Nat.le_of_ble_eq_true rfl) rfl ?_
  refine r_iconst (v := 0) dX11_rankOf_2 rfl ?_
  refine r_istore_n (lv' := [(3, _), (2, _), (0, _), (1, _)]) dX11_rankOf_3 (Nat.le_of_ble_eq_true rfl) rfl ?_
  exact r_keep [3, 2, 0, 1] rfl (loop 0 (by omega))
/-- av i is i less 1, as an int -/
def avI : Nat → Int32
  | 0 => -1
  | i + 1 => nI i
theorem avI_1 (i : Nat) : avI i + 1 = nI i := by
  cases i with
  | zero => decide
  | succ i => exact nI_1 i
theorem avI_m (i : Nat) : nI i + (-1) = avI i := by
  cases i with
  | zero => decide
  | succ i => exact pk_m1 i
theorem nxA_le (p : Nat → Nat) (i : Nat) : nxA p i ≤ i := by
  induction i with
  | zero => exact Nat.le_refl 0
  | succ i ih =>
    unfold nxA
    cases Nat.ble (p (i + 1) + 1) (p i) with
    | true => exact Nat.le_succ_of_le ih
    | false => exact Nat.le_refl _
theorem nxA_up (p : Nat → Nat) (i j : Nat) (h : nxA p i = j + 1) : ¬ p (j + 1) < p j := by
  induction i with
  | zero => cases h
  | succ i ih =>
    unfold nxA at h
    cases hb : Nat.ble (p (i + 1) + 1) (p i) with
    | true => rw [hb] at h; exact ih h
    | false =>
      rw [hb] at h
      cases h
      intro q
      rw [Nat.ble_eq_true_of_le q] at hb
      cases hb
theorem nxB_le (p : Nat → Nat) (x b : Nat) : nxB p x b ≤ b := by
  induction b with
  | zero => exact Nat.le_refl 0
  | succ b ih =>
    unfold nxB
    cases Nat.ble (p (b + 1) + 1) x with
    | true => exact Nat.le_succ_of_le ih
    | false => exact Nat.le_refl _
theorem nxS_lt {p : Nat → Nat} {a b n : Nat} (h : ∀ k, k < n → p k < n) (ha : a < n) (hb : b < n) : ∀ k, k < n → nxS p a b k < n := by
  intro k hk
  unfold nxS
  cases Nat.beq k b with
  | true => exact h a ha
  | false =>
    cases Nat.beq k a with
    | true => exact h b hb
    | false => exact h k hk
theorem nxQ_lt {p : Nat → Nat} {n : Nat} (h : ∀ k, k < n → p k < n) : ∀ k, k < n → nxQ p n k < n := by
  intro k hk
  unfold nxQ
  cases Nat.beq (nxA p (n - 1)) 0 with
  | true => exact h k hk
  | false =>
    have h1 := nxA_le p (n - 1)
    have h2 := nxB_le p (p (nxA p (n - 1) - 1)) (n - 1)
    exact nxS_lt h (by omega) (by omega) k hk
set_option maxHeartbeats 1000000 in
theorem c_X11_turns (α : Nat → Nat) (I : fdI) (L : fdL) (kr : Nat) (hS : fd_SM[kr]? = some (.inr (.inl (0, 7)))) (hkr : kr ≠ 0) {n : Nat} {p : Nat → Nat} (hn : I 0 1 = nI n) (hn7 : 1 ≤ n ∧ n ≤ 7) (hrow : ∀ k, k < n → I kr k = nI (p k)) (hp : ∀ k, k < n → p k < n) : Con fd_SM α yX11_turns mX11_turns [.ref (α 0), .ref (α kr)] I L (fd_vp (fun I' L' => L' = L ∧ (∀ a, a ≠ kr → I' a = I a) ∧ ∀ k, k < n → I' kr k = nI (nxP p n k))) := by
  refine Con.of (by decide) rfl (Nat.le_of_ble_eq_true rfl) ?_
  have hA := nxA_le p (n - 1)
  have hq := nxQ_lt hp
  generalize hi0 : nxA p (n - 1) = i0 at hA
  have en2 : ∀ m : Nat, nI (m + 1) - 2 = avI m := by
    intro m
    cases m with
    | zero => decide
    | succ m =>
      show nI (m + 2) - nI 2 = nI m
      rw [pk_sub (by omega)]
      congr 1
  have en1 : nI n - 1 = nI (n - 1) := by
    obtain ⟨m, rfl⟩ : ∃ m, n = m + 1 := ⟨n - 1, by omega⟩
    rw [nI_pred, Nat.add_sub_cancel]
  have revend : ∀ i j k, k < n → (∃ t, i = i0 + t ∧ j + t = n - 1) → j ≤ i → i ≤ j + 1 → (if (i0 ≤ k ∧ k < i) ∨ j < k then nxQ p n (i0 + (n - 1) - k) else nxQ p n k) = (bif Nat.ble i0 k && Nat.ble k (n - 1) then nxQ p n (i0 + (n - 1) - k) else nxQ p n k) := by
    intro i j k hk ⟨t, ht1, ht2⟩ hji hij
    rw [Nat.ble_eq_true_of_le (show k ≤ n - 1 by omega), Bool.and_true]
    by_cases c : i0 ≤ k
    · rw [Nat.ble_eq_true_of_le c, cond_true]
      split
      · rfl
      · next q =>
        congr 1
        omega
    · rw [show Nat.ble i0 k = false from Bool.eq_false_iff.mpr fun q => c (Nat.le_of_ble_eq_true q), cond_false, if_neg (by omega)]
  -- the end of the row is turned round
  have rev : ∀ t i j, i = i0 + t → j + t = n - 1 → i ≤ j + 1 → ∀ I1 : fdI, (∀ a, a ≠ kr → I1 a = I a) → (∀ k, k < n → I1 kr k = nI (if (i0 ≤ k ∧ k < i) ∨ j < k then nxQ p n (i0 + (n - 1) - k) else nxQ p n k)) →
      Rn fd_SM α mX11_turns 82 [(4, .int (nI j)), (3, .int (nI i)), (0, .ref (α 0)), (1, .ref (α kr))] [] I1 L (fd_vp (fun I' L' => L' = L ∧ (∀ a, a ≠ kr → I' a = I a) ∧ ∀ k, k < n → I' kr k = nI (nxP p n k))) := by
    have gen : ∀ m t i j, j = m → i = i0 + t → j + t = n - 1 → i ≤ j + 1 → ∀ I1 : fdI, (∀ a, a ≠ kr → I1 a = I a) → (∀ k, k < n → I1 kr k = nI (if (i0 ≤ k ∧ k < i) ∨ j < k then nxQ p n (i0 + (n - 1) - k) else nxQ p n k)) →
        Rn fd_SM α mX11_turns 82 [(4, .int (nI j)), (3, .int (nI i)), (0, .ref (α 0)), (1, .ref (α kr))] [] I1 L (fd_vp (fun I' L' => L' = L ∧ (∀ a, a ≠ kr → I' a = I a) ∧ ∀ k, k < n → I' kr k = nI (nxP p n k))) := by
      intro m
      induction m with
      | zero =>
        intro t i j hj hi ht hij I1 g1 g2
        subst hj
        refine r_iload_n dX11_turns_82 rfl ?_
        refine r_iload dX11_turns_83 rfl ?_
        refine r_icmp_ge 115 dX11_turns_85 (by decide) (fun h85 => ?_) (fun h85 => absurd h85 (not_not_intro ((nI_leI (by omega) (by omega)).mpr (by omega))))
        refine r_vret rfl dX11_turns_115 ?_
        refine ⟨rfl, rfl, g1, fun k hk => ?_⟩
        rw [g2 k hk]
        congr 1
        unfold nxP nxR
        rw [hi0]
        exact revend _ _ k hk ⟨t, hi, ht⟩ (by omega) hij
      | succ m ih =>
        intro t i j hj hi ht hij I1 g1 g2
        subst hj
        by_cases hx : m + 1 ≤ i
        · refine r_iload_n dX11_turns_82 rfl ?_
          refine r_iload dX11_turns_83 rfl ?_
          refine r_icmp_ge 115 dX11_turns_85 (by decide) (fun h85 => ?_) (fun h85 => absurd h85 (not_not_intro ((nI_leI (by omega) (by omega)).mpr hx)))
          refine r_vret rfl dX11_turns_115 ?_
          refine ⟨rfl, rfl, g1, fun k hk => ?_⟩
          rw [g2 k hk]
          congr 1
          unfold nxP nxR
          rw [hi0]
          exact revend _ _ k hk ⟨t, hi, ht⟩ (by omega) hij
        · have r1 : I1 kr i = nI (nxQ p n i) := by rw [g2 i (by omega), if_neg (by omega)]
          have r2 : I1 kr (m + 1) = nI (nxQ p n (m + 1)) := by rw [g2 (m + 1) (by omega), if_neg (by omega)]
          refine r_iload_n dX11_turns_82 rfl ?_
          refine r_iload dX11_turns_83 rfl ?_
          refine r_icmp_ge 115 dX11_turns_85 (by decide) (fun h85 => absurd h85 (fun q => hx ((nI_leI (by omega) (by omega)).mp q))) (fun h85 => ?_)
          refine r_aload_n dX11_turns_88 rfl ?_
          refine r_iload_n dX11_turns_89 rfl ?_
          refine r_ialdN hS dX11_turns_90 (by omega) (by omega) r1 ?_
          refine r_istore (lv' := [(5, _), (4, _), (3, _), (0, _), (1, _)]) dX11_turns_91 (Nat.le_of_ble_eq_true rfl) rfl ?_
          refine r_aload_n dX11_turns_93 rfl ?_
          refine r_iload_n dX11_turns_94 rfl ?_
          refine r_aload_n dX11_turns_95 rfl ?_
          refine r_iload dX11_turns_96 rfl ?_
          refine r_ialdN hS dX11_turns_98 (by omega) (by omega) r2 ?_
          refine r_iastN hS dX11_turns_99 (by omega) (by omega) ?_
          refine r_aload_n dX11_turns_100 rfl ?_
          refine r_iload dX11_turns_101 rfl ?_
          refine r_iload dX11_turns_103 rfl ?_
          refine r_iastN hS dX11_turns_105 (by omega) (by omega) ?_
          refine r_iinc (v := _ + 1) (lv' := [(3, _), (5, _), (4, _), (0, _), (1, _)]) dX11_turns_106 rfl rfl (Nat.le_of_ble_eq_true rfl) rfl ?_
          refine r_iinc (v := _ + (-1)) (lv' := [(4, _), (3, _), (5, _), (0, _), (1, _)]) dX11_turns_109 rfl rfl (Nat.le_of_ble_eq_true rfl) rfl ?_
          rw [pk_m1]
          refine r_goto (tgt := 82) dX11_turns_112 (by decide) ?_
          rw [nI_1]
          refine r_keep [4, 3, 0, 1] rfl (ih (t + 1) (i + 1) m rfl (by omega) (by omega) (by omega) _ (fun a ha => by rw [fd_up_cell ha, fd_up_cell ha]; exact g1 a ha) (fun k hk => ?_))
          rw [fd_up_at, fd_up_at]
          by_cases k1 : k = m + 1
          · rw [if_pos k1, if_pos (by omega)]
            congr 2
            omega
          · rw [if_neg k1]
            by_cases k2 : k = i
            · rw [if_pos k2, if_pos (by omega)]
              congr 2
              omega
            · rw [if_neg k2, g2 k hk]
              congr 1
              by_cases k3 : (i0 ≤ k ∧ k < i) ∨ m + 1 < k
              · rw [if_pos k3, if_pos (by omega)]
              · rw [if_neg k3, if_neg (by omega)]
    intro t i j hi hj hij I1 g1 g2
    exact gen j t i j rfl hi hj hij I1 g1 g2
  -- behind the exchange
  have back : ∀ I1 : fdI, (∀ a, a ≠ kr → I1 a = I a) → (∀ k, k < n → I1 kr k = nI (nxQ p n k)) → Rn fd_SM α mX11_turns 70 [(2, .int (avI i0)), (0, .ref (α 0)), (1, .ref (α kr))] [] I1 L (fd_vp (fun I' L' => L' = L ∧ (∀ a, a ≠ kr → I' a = I a) ∧ ∀ k, k < n → I' kr k = nI (nxP p n k))) := by
    intro I1 g1 g2
    have hd : I1 0 1 = nI n := by rw [g1 0 (fun q => hkr q.symm)]; exact hn
    refine r_iload_n dX11_turns_70 rfl ?_
    refine r_iconst (v := 1) dX11_turns_71 rfl ?_
    refine r_iadd dX11_turns_72 ?_
    rw [avI_1]
    refine r_istore_n (lv' := [(3, _), (2, _), (0, _), (1, _)]) dX11_turns_73 (Nat.le_of_ble_eq_true rfl) rfl ?_
    refine r_aload_n dX11_turns_74 rfl ?_
    refine r_getV rfl rfl fl_11_93 dX11_turns_75 hd ?_
    refine r_iconst (v := 1) dX11_turns_78 rfl ?_
    refine r_isub dX11_turns_79 ?_
    rw [en1]
    refine r_istore (lv' := [(4, _), (3, _), (2, _), (0, _), (1, _)]) dX11_turns_80 (Nat.le_of_ble_eq_true rfl) rfl ?_
    refine r_keep [4, 3, 0, 1] rfl (rev 0 i0 (n - 1) rfl rfl (by omega) I1 g1 (fun k hk => ?_))
    rw [if_neg (by omega)]
    exact g2 k hk
  have mid : Rn fd_SM α mX11_turns 28 [(2, .int (avI i0)), (0, .ref (α 0)), (1, .ref (α kr))] [] I L (fd_vp (fun I' L' => L' = L ∧ (∀ a, a ≠ kr → I' a = I a) ∧ ∀ k, k < n → I' kr k = nI (nxP p n k))) := by
    cases hi : i0 with
    | zero =>
      rw [hi] at back
      have eQ : nxQ p n = p := by
        unfold nxQ
        rw [hi0, hi]
        rfl
      refine r_iload_n dX11_turns_28 rfl ?_
      refine r_if_lt 70 dX11_turns_29 (by decide) (fun h29 => ?_) (fun h29 => absurd h29 (not_not_intro (by decide)))
      exact r_keep [2, 0, 1] rfl (back I (fun _ _ => rfl) (fun k hk => by rw [eQ]; exact hrow k hk))
    | succ a =>
      rw [hi] at back
      have hup := nxA_up p (n - 1) a (hi0.trans hi)
      have ha : a + 1 ≤ n - 1 := by omega
      have eQ : nxQ p n = nxS p a (nxB p (p a) (n - 1)) := by
        unfold nxQ
        rw [hi0, hi]
        rfl
      have hBle := nxB_le p (p a) (n - 1)
      have swp : ∀ b, b = nxB p (p a) (n - 1) → a < b → Rn fd_SM α mX11_turns 54 [(3, .int (nI b)), (2, .int (nI a)), (0, .ref (α 0)), (1, .ref (α kr))] [] I L (fd_vp (fun I' L' => L' = L ∧ (∀ a, a ≠ kr → I' a = I a) ∧ ∀ k, k < n → I' kr k = nI (nxP p n k))) := by
        intro b hb hab
        refine r_aload_n dX11_turns_54 rfl ?_
        refine r_iload_n dX11_turns_55 rfl ?_
        refine r_ialdN hS dX11_turns_56 (by omega) (by omega) (hrow a (by omega)) ?_
        refine r_istore (lv' := [(4, _), (3, _), (2, _), (0, _), (1, _)]) dX11_turns_57 (Nat.le_of_ble_eq_true rfl) rfl ?_
        refine r_aload_n dX11_turns_59 rfl ?_
        refine r_iload_n dX11_turns_60 rfl ?_
        refine r_aload_n dX11_turns_61 rfl ?_
        refine r_iload_n dX11_turns_62 rfl ?_
        refine r_ialdN hS dX11_turns_63 (by omega) (by omega) (hrow b (by omega)) ?_
        refine r_iastN hS dX11_turns_64 (by omega) (by omega) ?_
        refine r_aload_n dX11_turns_65 rfl ?_
        refine r_iload_n dX11_turns_66 rfl ?_
        refine r_iload dX11_turns_67 rfl ?_
        refine r_iastN hS dX11_turns_69 (by omega) (by omega) ?_
        refine r_keep [2, 0, 1] rfl (back _ (fun c hc => by rw [fd_up_cell hc, fd_up_cell hc]) (fun k hk => ?_))
        rw [fd_up_at, fd_up_at, eQ, ← hb]
        unfold nxS
        by_cases k1 : k = b
        · subst k1
          rw [if_pos rfl, Nat.beq_refl]
          rfl
        · rw [if_neg k1, nbf k1]
          by_cases k2 : k = a
          · subst k2
            rw [if_pos rfl, Nat.beq_refl]
            rfl
          · rw [if_neg k2, nbf k2, hrow k hk]
            rfl
      have lb : ∀ b, b ≤ n - 1 → a + 1 ≤ b → nxB p (p a) b = nxB p (p a) (n - 1) → Rn fd_SM α mX11_turns 39 [(3, .int (nI b)), (2, .int (nI a)), (0, .ref (α 0)), (1, .ref (α kr))] [] I L (fd_vp (fun I' L' => L' = L ∧ (∀ a, a ≠ kr → I' a = I a) ∧ ∀ k, k < n → I' kr k = nI (nxP p n k))) := by
        intro b
        induction b with
        | zero => intro _ h; omega
        | succ b ihb =>
          intro hb1 hb2 he
          have pa := hp a (by omega)
          have pb := hp (b + 1) (by omega)
          by_cases hx : p (b + 1) < p a
          · have e1 : nxB p (p a) b = nxB p (p a) (n - 1) := by
              rw [← he]
              show _ = bif _ then _ else _
              rw [Nat.ble_eq_true_of_le hx]
              rfl
            refine r_aload_n dX11_turns_39 rfl ?_
            refine r_iload_n dX11_turns_40 rfl ?_
            refine r_ialdN hS dX11_turns_41 (by omega) (by omega) (hrow (b + 1) (by omega)) ?_
            refine r_aload_n dX11_turns_42 rfl ?_
            refine r_iload_n dX11_turns_43 rfl ?_
            refine r_ialdN hS dX11_turns_44 (by omega) (by omega) (hrow a (by omega)) ?_
            refine r_icmp_ge 54 dX11_turns_45 (by decide) (fun h45 => absurd h45 (fun q => absurd ((nI_leI (by omega) (by omega)).mp q) (by omega))) (fun h45 => ?_)
            refine r_iinc (v := _ + (-1)) (lv' := [(3, _), (2, _), (0, _), (1, _)]) dX11_turns_48 rfl rfl (Nat.le_of_ble_eq_true rfl) rfl ?_
            rw [pk_m1]
            refine r_goto (tgt := 39) dX11_turns_51 (by decide) ?_
            refine r_keep [3, 2, 0, 1] rfl (ihb (by omega) ?_ e1)
            by_cases q : b = a
            · subst q; exact absurd hx hup
            · omega
          · have e1 : nxB p (p a) (b + 1) = b + 1 := by
              show (bif _ then _ else _) = _
              rw [show Nat.ble (p (b + 1) + 1) (p a) = false from Bool.eq_false_iff.mpr fun q => hx (Nat.le_of_ble_eq_true q)]
              rfl
            refine r_aload_n dX11_turns_39 rfl ?_
            refine r_iload_n dX11_turns_40 rfl ?_
            refine r_ialdN hS dX11_turns_41 (by omega) (by omega) (hrow (b + 1) (by omega)) ?_
            refine r_aload_n dX11_turns_42 rfl ?_
            refine r_iload_n dX11_turns_43 rfl ?_
            refine r_ialdN hS dX11_turns_44 (by omega) (by omega) (hrow a (by omega)) ?_
            refine r_icmp_ge 54 dX11_turns_45 (by decide) (fun h45 => ?_) (fun h45 => absurd h45 (not_not_intro ((nI_leI (by omega) (by omega)).mpr (by omega))))
            exact r_keep [3, 2, 0, 1] rfl (swp (b + 1) (e1.symm.trans he) (by omega))
      refine r_iload_n dX11_turns_28 rfl ?_
      refine r_if_lt 70 dX11_turns_29 (by decide) (fun h29 => absurd h29 (nI_pos (by omega))) (fun h29 => ?_)
      refine r_aload_n dX11_turns_32 rfl ?_
      refine r_getV rfl rfl fl_11_93 dX11_turns_33 hn ?_
      refine r_iconst (v := 1) dX11_turns_36 rfl ?_
      refine r_isub dX11_turns_37 ?_
      rw [en1]
      refine r_istore_n (lv' := [(3, _), (2, _), (0, _), (1, _)]) dX11_turns_38 (Nat.le_of_ble_eq_true rfl) rfl ?_
      exact r_keep [3, 2, 0, 1] rfl (lb (n - 1) (Nat.le_refl _) ha rfl)
  have la : ∀ i, i ≤ n - 1 → nxA p i = i0 → Rn fd_SM α mX11_turns 7 [(2, .int (avI i)), (0, .ref (α 0)), (1, .ref (α kr))] [] I L (fd_vp (fun I' L' => L' = L ∧ (∀ a, a ≠ kr → I' a = I a) ∧ ∀ k, k < n → I' kr k = nI (nxP p n k))) := by
    intro i
    induction i with
    | zero =>
      intro h he
      have he : 0 = i0 := he
      subst he
      refine r_iload_n dX11_turns_7 rfl ?_
      refine r_if_lt 28 dX11_turns_8 (by decide) (fun h8 => ?_) (fun h8 => absurd h8 (not_not_intro (by decide)))
      exact r_keep [2, 0, 1] rfl mid
    | succ i ih =>
      intro h he
      have pa := hp i (by omega)
      have pb := hp (i + 1) (by omega)
      by_cases hx : p (i + 1) < p i
      · have e1 : nxA p i = i0 := by
          rw [← he]
          show _ = bif _ then _ else _
          rw [Nat.ble_eq_true_of_le hx]
          rfl
        show Rn fd_SM α mX11_turns 7 [(2, .int (nI i)), (0, .ref (α 0)), (1, .ref (α kr))] [] I L _
        refine r_iload_n dX11_turns_7 rfl ?_
        refine r_if_lt 28 dX11_turns_8 (by decide) (fun h8 => absurd h8 (nI_pos (by omega))) (fun h8 => ?_)
        refine r_aload_n dX11_turns_11 rfl ?_
        refine r_iload_n dX11_turns_12 rfl ?_
        refine r_ialdN hS dX11_turns_13 (by omega) (by omega) (hrow i (by omega)) ?_
        refine r_aload_n dX11_turns_14 rfl ?_
        refine r_iload_n dX11_turns_15 rfl ?_
        refine r_iconst (v := 1) dX11_turns_16 rfl ?_
        refine r_iadd dX11_turns_17 ?_
        rw [nI_1]
        refine r_ialdN hS dX11_turns_18 (by omega) (by omega) (hrow (i + 1) (by omega)) ?_
        refine r_icmp_le 28 dX11_turns_19 (by decide) (fun h19 => absurd h19 (fun q => absurd ((nI_leI (by omega) (by omega)).mp q) (by omega))) (fun h19 => ?_)
        refine r_iinc (v := _ + (-1)) (lv' := [(2, _), (0, _), (1, _)]) dX11_turns_22 rfl rfl (Nat.le_of_ble_eq_true rfl) rfl ?_
        rw [avI_m]
        refine r_goto (tgt := 7) dX11_turns_25 (by decide) ?_
        exact r_keep [2, 0, 1] rfl (ih (by omega) e1)
      · have e1 : nxA p (i + 1) = i + 1 := by
          show (bif _ then _ else _) = _
          rw [show Nat.ble (p (i + 1) + 1) (p i) = false from Bool.eq_false_iff.mpr fun q => hx (Nat.le_of_ble_eq_true q)]
          rfl
        have e2 : i0 = i + 1 := he.symm.trans e1
        show Rn fd_SM α mX11_turns 7 [(2, .int (nI i)), (0, .ref (α 0)), (1, .ref (α kr))] [] I L _
        refine r_iload_n dX11_turns_7 rfl ?_
        refine r_if_lt 28 dX11_turns_8 (by decide) (fun h8 => absurd h8 (nI_pos (by omega))) (fun h8 => ?_)
        refine r_aload_n dX11_turns_11 rfl ?_
        refine r_iload_n dX11_turns_12 rfl ?_
        refine r_ialdN hS dX11_turns_13 (by omega) (by omega) (hrow i (by omega)) ?_
        refine r_aload_n dX11_turns_14 rfl ?_
        refine r_iload_n dX11_turns_15 rfl ?_
        refine r_iconst (v := 1) dX11_turns_16 rfl ?_
        refine r_iadd dX11_turns_17 ?_
        rw [nI_1]
        refine r_ialdN hS dX11_turns_18 (by omega) (by omega) (hrow (i + 1) (by omega)) ?_
        refine r_icmp_le 28 dX11_turns_19 (by decide) (fun h19 => ?_) (fun h19 => absurd h19 (not_not_intro ((nI_leI (by omega) (by omega)).mpr (by omega))))
        refine r_keep [2, 0, 1] rfl ?_
        rw [e2] at mid
        exact mid
  refine r_aload_n dX11_turns_0 rfl ?_
  refine r_getV rfl rfl fl_11_93 dX11_turns_1 hn ?_
  refine r_iconst (v := 2) dX11_turns_4 rfl ?_
  refine r_isub dX11_turns_5 ?_
  refine r_istore_n (lv' := [(2, _), (0, _), (1, _)]) dX11_turns_6 (Nat.le_of_ble_eq_true rfl) rfl ?_
  obtain ⟨m, rfl⟩ : ∃ m, n = m + 1 := ⟨n - 1, by omega⟩
  rw [en2]
  exact r_keep [2, 0, 1] rfl (la m (by omega) hi0)
