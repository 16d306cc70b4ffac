/-! the model: the fewest notes -/
def awB (V : pV) (n nn nt : Nat) (p : Nat → Nat) : Bool := Nat.beq (wlN V n nn p) n && anB (fun k => Nat.beq (wlN V n nn (prm n (V 10 k).toNatClampNeg)) n) nt
theorem c_areWell (V : pV) (α : Nat → Nat) (I : fdI) (L : fdL) {n nn np nt : Nat} {p : Nat → Nat} (h : mOk V I n nn np nt) (hrow : ∀ k, k < n → I 6 k = nI (p k)) (hp : isP p n) : Con fd_SM α yX11_areWell mX11_areWell [.ref (α 0)] I L (fd_ip (fun v I' L' => v = .int (fd_b (awB V n nn nt p = true)) ∧ mSm I I' ∧ L' = L)) := by
  refine Con.of (by decide) rfl (Nat.le_of_ble_eq_true rfl) ?_
  have hn7 := h.2.1
  have hwl : ∀ q, wlN V n nn q ≤ n := fun q => cnN_le _ _
  have hnt := h.2.2.2.2.2.2.2.1
  have loop : ∀ k, k ≤ nt → ∀ I1 : fdI, mSm I I1 → ∀ L1 : fdL, L1 = L → Rn fd_SM α mX11_areWell 27 [(2, .int (nI k)), (1, .int (fd_b ((Nat.beq (wlN V n nn p) n && anB (fun k => Nat.beq (wlN V n nn (prm n (V 10 k).toNatClampNeg)) n) k) = true))), (0, .ref (α 0))] [] I1 L1 (fd_ip (fun v I' L' => v = .int (fd_b (awB V n nn nt p = true)) ∧ mSm I I' ∧ L' = L)) := by
    refine fd_down (fun k hk ih => ?_)
    intro I1 s1 L1 e1
    have h1 := h.sm s1
    by_cases hx : k = nt
    · subst hx
      refine r_iload_n dX11_areWell_27 rfl ?_
      refine r_aload_n dX11_areWell_28 rfl ?_
      refine r_getV rfl rfl fl_11_109 dX11_areWell_29 h1.2.2.2.2.2.2.1 ?_
      refine r_icmp_ge 84 dX11_areWell_32 (by decide) (fun h32 => ?_) (fun h32 => absurd h32 (not_not_intro (Int32.le_refl _)))
      refine r_iload_n dX11_areWell_84 rfl ?_
      refine r_zret rfl (fd_b01 _) dX11_areWell_85 ?_
      exact ⟨_, rfl, rfl, s1, e1⟩
    · have hkn : k < nt := by omega
      by_cases hb : (Nat.beq (wlN V n nn p) n && anB (fun k => Nat.beq (wlN V n nn (prm n (V 10 k).toNatClampNeg)) n) k) = true
      · have hf := fac_le hn7.2
        obtain ⟨j, hj, ej⟩ := dayP_nI (h.2.2.2.2.2.2.2.2.2.2.2.2 k hkn)
        have ek : (V 10 k).toNatClampNeg = j := by rw [ej, nI_clamp (by omega)]
        have it : I1 11 k = nI j := (h1.2.2.2.2.2.2.2.2.1.2.2.2 k hkn).trans ej
        have jn : ∀ v, v = fd_b ((Nat.beq (wlN V n nn p) n && anB (fun k => Nat.beq (wlN V n nn (prm n (V 10 k).toNatClampNeg)) n) (k + 1)) = true) → ∀ I2 : fdI, mSm I I2 → ∀ L2 : fdL, L2 = L → Rn fd_SM α mX11_areWell 77 [(2, .int (nI k)), (0, .ref (α 0))] [.int v] I2 L2 (fd_ip (fun v I' L' => v = .int (fd_b (awB V n nn nt p = true)) ∧ mSm I I' ∧ L' = L)) := by
          intro v hv I2 s2 L2 e2
          subst hv
          refine r_istore_n (lv' := [(1, _), (2, _), (0, _)]) dX11_areWell_77 (Nat.le_of_ble_eq_true rfl) rfl ?_
          refine r_iinc (v := _ + 1) (lv' := [(2, _), (1, _), (0, _)]) dX11_areWell_78 rfl rfl (Nat.le_of_ble_eq_true rfl) rfl ?_
          refine r_goto (tgt := 27) dX11_areWell_81 (by decide) ?_
          rw [nI_1]
          exact r_keep [2, 1, 0] rfl (ih hkn _ s2 _ e2)
        rw [Bool.and_eq_true] at hb
        refine r_iload_n dX11_areWell_27 rfl ?_
        refine r_aload_n dX11_areWell_28 rfl ?_
        refine r_getV rfl rfl fl_11_109 dX11_areWell_29 h1.2.2.2.2.2.2.1 ?_
        refine r_icmp_ge 84 dX11_areWell_32 (by decide) (fun h32 => absurd h32 (fun q => absurd ((nI_leI (by omega) (by omega)).mp q) (by omega))) (fun h32 => ?_)
        refine r_iload_n dX11_areWell_35 rfl ?_
        refine r_if_eq 84 dX11_areWell_36 (by decide) (fun h36 => absurd h36 (fd_bn.mpr (by rw [Bool.and_eq_true]; exact hb))) (fun h36 => ?_)
        refine r_aload_n dX11_areWell_39 rfl ?_
        refine r_aload_n dX11_areWell_40 rfl ?_
        refine r_getR rfl rfl fl_11_40 dX11_areWell_41 ?_
        refine r_iload_n dX11_areWell_44 rfl ?_
        refine r_ialdN rfl dX11_areWell_45 (by omega) (by omega) it ?_
        refine r_aload_n dX11_areWell_46 rfl ?_
        refine r_getR rfl rfl fl_11_58 dX11_areWell_47 ?_
        refine r_cVq (As := [_, _]) (c_X11_rowOf α _ _ 17 j rfl (by decide) h1.1 hn7 hj) lk_11_157 rfl rfl (by decide) (by decide) rfl rfl (Nat.le_of_ble_eq_true rfl) dX11_areWell_50 (fun I50 L50 q50 => ?_)
        obtain ⟨e50, s50, w50⟩ := q50
        have s2 : mSm I1 I50 := ⟨fun a a0 a1 a2 a3 a4 a5 a6 a7 => s50 a a5, fun j hj => by rw [s50 0 (by decide)]⟩
        refine r_aload_n dX11_areWell_53 rfl ?_
        refine r_aload_n dX11_areWell_54 rfl ?_
        refine r_getR rfl rfl fl_11_58 dX11_areWell_55 ?_
        refine r_cVq (As := [_]) (c_lives V α _ _ 17 rfl (Or.inr rfl) (h1.sm s2) w50 (prm_P hn7 hj)) lk_11_170 rfl rfl (by decide) (by decide) rfl rfl (Nat.le_of_ble_eq_true rfl) dX11_areWell_58 (fun I58 L58 q58 => ?_)
        obtain ⟨e58, s58, t58, w58⟩ := q58
        have hz := hwl (prm n j)
        refine r_aload_n dX11_areWell_61 rfl ?_
        refine r_getV rfl rfl fl_11_164 dX11_areWell_62 w58.2 ?_
        refine r_aload_n dX11_areWell_65 rfl ?_
        refine r_getV rfl rfl fl_11_93 dX11_areWell_66 ((h1.sm s2).sm s58).1 ?_
        refine r_icmp_ne 76 dX11_areWell_69 (by decide) (fun h69 => ?_) (fun h69 => ?_)
        · have z : ¬ wlN V n nn (prm n j) = n := fun q => h69 (by rw [q])
          have ev : (0 : Int32) = fd_b ((Nat.beq (wlN V n nn p) n && anB (fun k => Nat.beq (wlN V n nn (prm n (V 10 k).toNatClampNeg)) n) (k + 1)) = true) := (fd_b_f (fun q => by simp only [anB, Bool.and_eq_true] at q; have q2 := q.2.2; rw [ek] at q2; exact z (Nat.eq_of_beq_eq_true q2))).symm
          refine r_iconst (v := 0) dX11_areWell_76 rfl ?_
          exact r_keep [2, 0] rfl (jn _ ev _ ((s1.trans s2).trans s58) _ (e58.trans (e50.trans e1)))
        · have z : wlN V n nn (prm n j) = n := (nI_eq (by omega) (by omega)).mp h69
          have ev : (1 : Int32) = fd_b ((Nat.beq (wlN V n nn p) n && anB (fun k => Nat.beq (wlN V n nn (prm n (V 10 k).toNatClampNeg)) n) (k + 1)) = true) := (fd_b_t (by simp only [anB, Bool.and_eq_true]; exact ⟨hb.1, hb.2, by rw [ek, z]; exact Nat.beq_refl _⟩)).symm
          refine r_iconst (v := 1) dX11_areWell_72 rfl ?_
          refine r_goto (tgt := 77) dX11_areWell_73 (by decide) ?_
          exact r_keep [2, 0] rfl (jn _ ev _ ((s1.trans s2).trans s58) _ (e58.trans (e50.trans e1)))
      · have ev : fd_b (awB V n nn nt p = true) = fd_b ((Nat.beq (wlN V n nn p) n && anB (fun k => Nat.beq (wlN V n nn (prm n (V 10 k).toNatClampNeg)) n) k) = true) := by
          rw [fd_b_f hb]
          refine fd_b_f (fun q => hb ?_)
          unfold awB at q
          rw [Bool.and_eq_true, anB_iff] at q ⊢
          exact ⟨q.1, fun i hi => q.2 i (by omega)⟩
        refine r_iload_n dX11_areWell_27 rfl ?_
        refine r_aload_n dX11_areWell_28 rfl ?_
        refine r_getV rfl rfl fl_11_109 dX11_areWell_29 h1.2.2.2.2.2.2.1 ?_
        refine r_icmp_ge 84 dX11_areWell_32 (by decide) (fun h32 => absurd h32 (fun q => absurd ((nI_leI (by omega) (by omega)).mp q) (by omega))) (fun h32 => ?_)
        refine r_iload_n dX11_areWell_35 rfl ?_
        refine r_if_eq 84 dX11_areWell_36 (by decide) (fun h36 => ?_) (fun h36 => absurd h36 (not_not_intro (fd_b0.mpr hb)))
        refine r_iload_n dX11_areWell_84 rfl ?_
        refine r_zret rfl (fd_b01 _) dX11_areWell_85 ?_
        exact ⟨_, rfl, by rw [ev], s1, e1⟩
  refine r_aload_n dX11_areWell_0 rfl ?_
  refine r_aload_n dX11_areWell_1 rfl ?_
  refine r_getR rfl rfl fl_11_25 dX11_areWell_2 ?_
  refine r_cVq (As := [_]) (c_lives V α _ _ _ rfl (Or.inl rfl) h hrow hp) lk_11_170 rfl rfl (by decide) (by decide) rfl rfl (Nat.le_of_ble_eq_true rfl) dX11_areWell_5 (fun I5 L5 q5 => ?_)
  obtain ⟨e5, s5, t5, w5⟩ := q5
  have hz := hwl p
  have lp := loop 0 (by omega) _ s5 _ e5
  refine r_aload_n dX11_areWell_8 rfl ?_
  refine r_getV rfl rfl fl_11_164 dX11_areWell_9 w5.2 ?_
  refine r_aload_n dX11_areWell_12 rfl ?_
  refine r_getV rfl rfl fl_11_93 dX11_areWell_13 (h.sm s5).1 ?_
  refine r_icmp_ne 23 dX11_areWell_16 (by decide) (fun h16 => ?_) (fun h16 => ?_)
  · rw [fd_b_f (fun q => by rw [Bool.and_eq_true] at q; exact h16 (by rw [Nat.eq_of_beq_eq_true q.1]))] at lp
    refine r_iconst (v := 0) dX11_areWell_23 rfl ?_
    refine r_istore_n (lv' := [(1, _), (0, _)]) dX11_areWell_24 (Nat.le_of_ble_eq_true rfl) rfl ?_
    refine r_iconst (v := 0) dX11_areWell_25 rfl ?_
    refine r_istore_n (lv' := [(2, _), (1, _), (0, _)]) dX11_areWell_26 (Nat.le_of_ble_eq_true rfl) rfl ?_
    exact r_keep [2, 1, 0] rfl lp
  · have z : wlN V n nn p = n := (nI_eq (by omega) (by omega)).mp h16
    rw [fd_b_t (by rw [Bool.and_eq_true]; exact ⟨by rw [z]; exact Nat.beq_refl _, rfl⟩)] at lp
    refine r_iconst (v := 1) dX11_areWell_19 rfl ?_
    refine r_goto (tgt := 24) dX11_areWell_20 (by decide) ?_
    refine r_istore_n (lv' := [(1, _), (0, _)]) dX11_areWell_24 (Nat.le_of_ble_eq_true rfl) rfl ?_
    refine r_iconst (v := 0) dX11_areWell_25 rfl ?_
    refine r_istore_n (lv' := [(2, _), (1, _), (0, _)]) dX11_areWell_26 (Nat.le_of_ble_eq_true rfl) rfl ?_
    exact r_keep [2, 1, 0] rfl lp
def isN (V : pV) (nn d f : Nat) : Bool := orB (fun k => V 6 k = nI d && V 7 k = nI f) nn
def adB (V : pV) (n nn a : Nat) : Bool := Nat.ble (a / 10 + 1) n && (Nat.ble (a % 10 + 1) 6 && (!isN V nn (a / 10) (a % 10) && Nat.ble (nn + 1) 6))
def adW (V : pV) (nn a : Nat) : pV := fd_up (fd_up V 6 nn (nI (a / 10))) 7 nn (nI (a % 10))
abbrev adI (I : fdI) (nn a : Nat) : fdI := fd_up (fd_up (fd_up I 7 nn (nI (a / 10))) 8 nn (nI (a % 10))) 0 7 (nI (nn + 1))
theorem adW_ok {V : pV} {I : fdI} {n nn np nt a : Nat} (h : mOk V I n nn np nt) (ha : adB V n nn a = true) : mOk (adW V nn a) (adI I nn a) n (nn + 1) np nt := by
  obtain ⟨a1, a2, a3, a4, a5, a6, a7, a8, a9, a10⟩ := h
  unfold adB at ha
  simp only [Bool.and_eq_true] at ha
  have b1 := Nat.le_of_ble_eq_true ha.1
  have b2 := Nat.le_of_ble_eq_true ha.2.1
  have b3 := Nat.le_of_ble_eq_true ha.2.2.2
  refine ⟨a1, a2, rfl, b3, a5, a6, a7, a8, ⟨fun d hd => a9.1 d hd, fun k hk => ?_, a9.2.2.1, a9.2.2.2⟩, a10.1, fun k hk => ?_, a10.2.2.1, a10.2.2.2⟩
  · show fd_up I 7 nn _ 7 k = fd_up V 6 nn _ 6 k ∧ fd_up I 8 nn _ 8 k = fd_up V 7 nn _ 7 k
    rw [fd_up_at, fd_up_at, fd_up_at, fd_up_at]
    by_cases q : k = nn
    · simp [q]
    · rw [if_neg q, if_neg q, if_neg q, if_neg q]
      exact a9.2.1 k (by omega)
  · show dayP (fd_up V 6 nn _ 6 k) n ∧ dayP (fd_up V 7 nn _ 7 k) 6
    rw [fd_up_at, fd_up_at]
    by_cases q : k = nn
    · rw [if_pos q, if_pos q]
      exact ⟨nI_dayP b1 (by omega), nI_dayP b2 (by omega)⟩
    · rw [if_neg q, if_neg q]
      exact a10.2.1 k (by omega)
theorem c_adds (V : pV) (α : Nat → Nat) (I : fdI) (L : fdL) (a : Nat) (ha : a < 70) {n nn np nt : Nat} (h : mOk V I n nn np nt) : Con fd_SM α yX11_adds mX11_adds [.ref (α 0), .int (nI a)] I L (fd_is (some (.int (fd_b (adB V n nn a = true)))) (if adB V n nn a = true then adI I nn a else I) L) := by
  refine Con.of (by decide) rfl (Nat.le_of_ble_eq_true rfl) ?_
  have hn7 := h.2.1
  have hnn := h.2.2.2.1
  have e1 : nI a / 10 = nI (a / 10) := pk_div (d := 10) (by omega) (by omega) (by omega)
  have e2 : nI a - nI a / 10 * 10 = nI (a % 10) := pk_rem (d := 10) (by omega) (by omega) (by omega)
  have eN : orB (isNB I (nI (a / 10)) (nI (a % 10))) nn = isN V nn (a / 10) (a % 10) := orB_congr fun k hk => by
    have := h.2.2.2.2.2.2.2.2.1.2.1 k hk
    unfold isNB
    rw [show I 7 k = V 6 k from this.1, show I 8 k = V 7 k from this.2]
  have d1 : dayP (nI (a / 10)) n ↔ a / 10 + 1 ≤ n := by
    have : (nI (a / 10)).toInt = ((a / 10 : Nat) : Int) := nI_toInt (by omega)
    unfold dayP
    rw [this]
    omega
  have d2 : dayP (nI (a % 10)) 6 ↔ a % 10 + 1 ≤ 6 := by
    have : (nI (a % 10)).toInt = ((a % 10 : Nat) : Int) := nI_toInt (by omega)
    unfold dayP
    rw [this]
    omega
  by_cases hok : adB V n nn a = true
  · rw [fd_b_t hok, if_pos hok]
    unfold adB at hok
    simp only [Bool.and_eq_true] at hok
    have b1 := Nat.le_of_ble_eq_true hok.1
    have b2 := Nat.le_of_ble_eq_true hok.2.1
    have b3 := Nat.le_of_ble_eq_true hok.2.2.2
    have b4 : ¬ orB (isNB I (nI (a / 10)) (nI (a % 10))) nn = true := by rw [eN]; intro q; rw [q] at hok; exact absurd hok.2.2.1 (by decide)
    refine r_iload_n dX11_adds_0 rfl ?_
    refine r_bipush (v := 10) dX11_adds_1 rfl ?_
    refine r_idiv dX11_adds_3 (by decide) ?_
    rw [e1]
    refine r_istore_n (lv' := [(2, _), (0, _), (1, _)]) dX11_adds_4 (Nat.le_of_ble_eq_true rfl) rfl ?_
    refine r_iload_n dX11_adds_5 rfl ?_
    refine r_bipush (v := 10) dX11_adds_6 rfl ?_
    refine r_irem dX11_adds_8 (by decide) ?_
    rw [e2]
    refine r_istore_n (lv' := [(3, _), (2, _), (0, _), (1, _)]) dX11_adds_9 (Nat.le_of_ble_eq_true rfl) rfl ?_
    refine r_aload_n dX11_adds_10 rfl ?_
    refine r_iload_n dX11_adds_11 rfl ?_
    refine r_cVr (As := [_]) (c_X11_isDay α _ _ _ h.1 hn7) lk_11_124 rfl rfl (by decide) (by decide) rfl rfl (Nat.le_of_ble_eq_true rfl) dX11_adds_12 ?_
    refine r_if_eq 43 dX11_adds_15 (by decide) (fun h15 => absurd h15 (fd_bn.mpr (d1.mpr b1))) (fun h15 => ?_)
    refine r_iload_n dX11_adds_18 rfl ?_
    refine r_cSr (As := [_]) (c_X11_isFact α _ _ _) lk_11_128 (by decide) (by decide) rfl rfl (Nat.le_of_ble_eq_true rfl) dX11_adds_19 ?_
    refine r_if_eq 43 dX11_adds_22 (by decide) (fun h22 => absurd h22 (fd_bn.mpr (d2.mpr b2))) (fun h22 => ?_)
    refine r_aload_n dX11_adds_25 rfl ?_
    refine r_iload_n dX11_adds_26 rfl ?_
    refine r_iload_n dX11_adds_27 rfl ?_
    refine r_cVr (As := [_, _]) (c_X11_isNote α _ _ _ _ h.2.2.1 hnn) lk_11_135 rfl rfl (by decide) (by decide) rfl rfl (Nat.le_of_ble_eq_true rfl) dX11_adds_28 ?_
    refine r_if_ne 43 dX11_adds_31 (by decide) (fun h31 => absurd h31 (not_not_intro (fd_b0.mpr b4))) (fun h31 => ?_)
    refine r_aload_n dX11_adds_34 rfl ?_
    refine r_getV rfl rfl fl_11_103 dX11_adds_35 h.2.2.1 ?_
    refine r_bipush (v := 6) dX11_adds_38 rfl ?_
    refine r_icmp_ne 45 dX11_adds_40 (by decide) (fun h40 => ?_) (fun h40 => absurd h40 (fun q => absurd ((nI_eq (b := 6) (by omega) (by omega)).mp q) (by omega)))
    refine r_aload_n dX11_adds_45 rfl ?_
    refine r_getR rfl rfl fl_11_28 dX11_adds_46 ?_
    refine r_aload_n dX11_adds_49 rfl ?_
    refine r_getV rfl rfl fl_11_103 dX11_adds_50 h.2.2.1 ?_
    refine r_iload_n dX11_adds_53 rfl ?_
    refine r_iastN rfl dX11_adds_54 (by omega) (by omega) ?_
    refine r_aload_n dX11_adds_55 rfl ?_
    refine r_getR rfl rfl fl_11_31 dX11_adds_56 ?_
    refine r_aload_n dX11_adds_59 rfl ?_
    refine r_getV rfl rfl fl_11_103 dX11_adds_60 h.2.2.1 ?_
    refine r_iload_n dX11_adds_63 rfl ?_
    refine r_iastN rfl dX11_adds_64 (by omega) (by omega) ?_
    refine r_aload_n dX11_adds_65 rfl ?_
    refine r_dup dX11_adds_66 rfl ?_
    refine r_getV rfl rfl fl_11_103 dX11_adds_67 h.2.2.1 ?_
    refine r_iconst (v := 1) dX11_adds_70 rfl ?_
    refine r_iadd dX11_adds_71 ?_
    rw [nI_1]
    refine r_putI rfl rfl fl_11_103 fw_11_7 dX11_adds_72 ?_
    refine r_iconst (v := 1) dX11_adds_75 rfl ?_
    refine r_zret rfl (by decide) dX11_adds_76 ?_
    exact fd_isI rfl rfl rfl
  · rw [fd_b_f hok, if_neg hok]
    have hno : dayP (nI (a / 10)) n → dayP (nI (a % 10)) 6 → ¬ orB (isNB I (nI (a / 10)) (nI (a % 10))) nn = true → nn = 6 := by
      intro z1 z2 z3
      have z1 := d1.mp z1
      have z2 := d2.mp z2
      rw [eN] at z3
      by_cases w : nn = 6
      · exact w
      · refine absurd ?_ hok
        unfold adB
        rw [Nat.ble_eq_true_of_le z1, Nat.ble_eq_true_of_le z2, Nat.ble_eq_true_of_le (show nn + 1 ≤ 6 by omega), Bool.eq_false_iff.mpr z3]
        rfl
    refine r_iload_n dX11_adds_0 rfl ?_
    refine r_bipush (v := 10) dX11_adds_1 rfl ?_
    refine r_idiv dX11_adds_3 (by decide) ?_
    rw [e1]
    refine r_istore_n (lv' := [(2, _), (0, _), (1, _)]) dX11_adds_4 (Nat.le_of_ble_eq_true rfl) rfl ?_
    refine r_iload_n dX11_adds_5 rfl ?_
    refine r_bipush (v := 10) dX11_adds_6 rfl ?_
    refine r_irem dX11_adds_8 (by decide) ?_
    rw [e2]
    refine r_istore_n (lv' := [(3, _), (2, _), (0, _), (1, _)]) dX11_adds_9 (Nat.le_of_ble_eq_true rfl) rfl ?_
    refine r_aload_n dX11_adds_10 rfl ?_
    refine r_iload_n dX11_adds_11 rfl ?_
    refine r_cVr (As := [_]) (c_X11_isDay α _ _ _ h.1 hn7) lk_11_124 rfl rfl (by decide) (by decide) rfl rfl (Nat.le_of_ble_eq_true rfl) dX11_adds_12 ?_
    refine r_if_eq 43 dX11_adds_15 (by decide) (fun h15 => ?_) (fun h15 => ?_)
    · refine r_iconst (v := 0) dX11_adds_43 rfl ?_
      refine r_zret rfl (by decide) dX11_adds_44 ?_
      exact fd_isI rfl rfl rfl
    · refine r_iload_n dX11_adds_18 rfl ?_
      refine r_cSr (As := [_]) (c_X11_isFact α _ _ _) lk_11_128 (by decide) (by decide) rfl rfl (Nat.le_of_ble_eq_true rfl) dX11_adds_19 ?_
      refine r_if_eq 43 dX11_adds_22 (by decide) (fun h22 => ?_) (fun h22 => ?_)
      · refine r_iconst (v := 0) dX11_adds_43 rfl ?_
        refine r_zret rfl (by decide) dX11_adds_44 ?_
        exact fd_isI rfl rfl rfl
      · refine r_aload_n dX11_adds_25 rfl ?_
        refine r_iload_n dX11_adds_26 rfl ?_
        refine r_iload_n dX11_adds_27 rfl ?_
        refine r_cVr (As := [_, _]) (c_X11_isNote α _ _ _ _ h.2.2.1 hnn) lk_11_135 rfl rfl (by decide) (by decide) rfl rfl (Nat.le_of_ble_eq_true rfl) dX11_adds_28 ?_
        refine r_if_ne 43 dX11_adds_31 (by decide) (fun h31 => ?_) (fun h31 => ?_)
        · refine r_iconst (v := 0) dX11_adds_43 rfl ?_
          refine r_zret rfl (by decide) dX11_adds_44 ?_
          exact fd_isI rfl rfl rfl
        · refine r_aload_n dX11_adds_34 rfl ?_
          refine r_getV rfl rfl fl_11_103 dX11_adds_35 h.2.2.1 ?_
          refine r_bipush (v := 6) dX11_adds_38 rfl ?_
          refine r_icmp_ne 45 dX11_adds_40 (by decide) (fun h40 => absurd h40 (not_not_intro (by rw [hno (fd_bn.mp h15) (fd_bn.mp h22) (fd_b0.mp h31)]; rfl))) (fun h40 => ?_)
          refine r_iconst (v := 0) dX11_adds_43 rfl ?_
          refine r_zret rfl (by decide) dX11_adds_44 ?_
          exact fd_isI rfl rfl rfl
