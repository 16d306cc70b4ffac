/-! the class: the text's fault -/
theorem skF_end {T : Nat → Int32} : ∀ m p, skF T m p = p + m ∨ ¬ T (skF T m p) = 32 := by
  intro m
  induction m with
  | zero => intro p; exact Or.inl rfl
  | succ m ih =>
    intro p
    unfold skF
    by_cases q : T p = 32
    · rw [if_pos q]
      rcases ih (p + 1) with h | h
      · exact Or.inl (by omega)
      · exact Or.inr h
    · rw [if_neg q]; exact Or.inr q
theorem sk_idem {T : Nat → Int32} {b q : Nat} (hq : q ≤ b) : sk T b (sk T b q) = sk T b q := by
  have h1 := sk_le (T := T) hq
  have h2 := skF_end (T := T) (b - q) q
  rcases (show sk T b q = b ∨ ¬ T (sk T b q) = 32 from h2.imp (fun z => by show skF T (b - q) q = b; omega) id) with h | h
  · rw [h]
    unfold sk
    rw [Nat.sub_self]
    rfl
  · generalize sk T b q = s at *
    unfold sk
    cases b - s with
    | zero => rfl
    | succ m => exact if_neg h
theorem itW_len {T : Nat → Int32} {b p : Nat} (hp : p ≤ b) (h : ¬ itW T b p = -1) : ∃ w, w < 7 ∧ itW T b p = nI w ∧ le T b (sk T b p) = sk T b p + fd_len.getD w 0 := by
  have hs := sk_le (T := T) hp
  have hle := le_le (T := T) hs.2
  have hr := wd_rel (T := T) (s := sk T b p) (m := le T b (sk T b p) - sk T b p) (fun i hi => le_at (b := b) (s := sk T b p) (sk T b p + i) (by omega) (by omega))
  rcases hr.1 with ⟨r1, r2⟩ | ⟨r1, r2⟩
  · exact ⟨_, r1, r2, by have := hr.2 r1; omega⟩
  · exact absurd r2 h
theorem dg_nI {T : Nat → Int32} {b q : Nat} (h : dg T b q = true) : ∃ a, a ≤ 9 ∧ T q - 48 = nI a := by
  unfold dg at h
  rw [Bool.and_eq_true] at h
  have h2 := of_decide_eq_true h.2
  obtain ⟨j, hj, e⟩ := dayP_nI (d := T q) (n := 58) ⟨by omega, by omega⟩
  rw [e, nI_toInt (by omega)] at h2
  exact ⟨j - 48, by omega, by rw [e, show (48 : Int32) = nI 48 from rfl, pk_sub (by omega)]⟩
/-- an item that stands: its length, and what it says -/
theorem itR_5 {T : Nat → Int32} {b k p : Nat} (hp : p ≤ b) (h : (itR T b k p).1 = true) : p + 5 ≤ (itR T b k p).2 ∧ (itR T b k p).2 ≤ b ∧ ∃ w a c, w < 7 ∧ a ≤ 9 ∧ c ≤ 9 ∧ itW T b p = nI w ∧ T (itA T b p) - 48 = nI a ∧ (if itW T b p = 0 then 0 else T (itB T b p) - 48) = nI c := by
  have hs0 := sk_le (T := T) hp
  have he0 := le_le (T := T) hs0.2
  have hs1 := sk_le (T := T) he0.2
  unfold itR at h ⊢
  by_cases c0 : itW T b p = -1 ∨ ¬ (itW T b p = 0 ↔ k = 0)
  · rw [if_pos c0] at h; cases h
  · rw [if_neg c0] at h ⊢
    obtain ⟨w, hw, eW, hlen⟩ := itW_len hp (fun q => c0 (Or.inl q))
    have hwl := wdL_ok w hw
    by_cases c1 : fgB T b (itA T b p) = false
    · rw [if_pos c1] at h; cases h
    · rw [if_neg c1] at h ⊢
      have hfA := eq_true_of_ne_false c1
      have hA := fgB_lt hfA
      have hA2 : le T b (sk T b p) ≤ itA T b p := hs1.1
      obtain ⟨a, ha, ea⟩ := dg_nI (fgB_dg hfA)
      by_cases c2 : ¬ itW T b p = 0 ∧ fgB T b (itB T b p) = false
      · rw [if_pos c2] at h; cases h
      · rw [if_neg c2] at h ⊢
        by_cases c3 : itC T b p = b ∨ ¬ T (itC T b p) = 59
        · rw [if_pos c3] at h; cases h
        · rw [if_neg c3]
          have hCb : ¬ itC T b p = b := fun q => c3 (Or.inl q)
          by_cases hw0 : itW T b p = 0
          · have e0 : w = 0 := (nI_n0 (by omega)).mp (eW.symm.trans hw0)
            have l4 : fd_len.getD w 0 = 4 := by rw [e0]; rfl
            have hC : itC T b p = sk T b (itA T b p + 1) := by unfold itC; rw [if_pos hw0]
            have hsc := sk_le (T := T) (b := b) (p := itA T b p + 1) (by omega)
            rw [← hC] at hsc
            show p + 5 ≤ itC T b p + 1 ∧ itC T b p + 1 ≤ b ∧ _
            exact ⟨by omega, by omega, w, a, 0, hw, ha, by omega, eW, ea, by rw [if_pos hw0]; rfl⟩
          · have hfB : fgB T b (itB T b p) = true := by
              cases z : fgB T b (itB T b p) with
              | true => rfl
              | false => exact absurd ⟨hw0, z⟩ c2
            have hBlt := fgB_lt hfB
            obtain ⟨c, hc, ec⟩ := dg_nI (fgB_dg hfB)
            have hB : itA T b p + 1 ≤ itB T b p := (sk_le (T := T) (b := b) (p := itA T b p + 1) (by omega)).1
            have hC : itC T b p = sk T b (itB T b p + 1) := by unfold itC; rw [if_neg hw0]
            have hsc := sk_le (T := T) (b := b) (p := itB T b p + 1) (by omega)
            rw [← hC] at hsc
            show p + 5 ≤ itC T b p + 1 ∧ itC T b p + 1 ≤ b ∧ _
            exact ⟨by omega, by omega, w, a, c, hw, ha, hc, eW, ea, by rw [if_neg hw0]; exact ec⟩
def ffP (T : Nat → Int32) (b : Nat) (I : fdI) (L : fdL) (v : Value) (I' : fdI) (L' : fdL) : Prop := L' = L ∧ (∀ a, a ≠ 54 → a ≠ 55 → I' a = I a) ∧ I' 54 0 = I 54 0 ∧ ((rdG T b 60 0).1 = false → v = .int (nI (rdG T b 60 0).2) ∧ (rdG T b 60 0).2 ≤ b) ∧ ((rdG T b 60 0).1 = true → v = .int (-1) ∧ I' 54 1 = nI (rdG T b 60 0).2 ∧ (rdG T b 60 0).2 ≤ 30 ∧ ∀ i, i < (rdG T b 60 0).2 → I' 55 i = itV T b (psF T b i) ∧ ∃ w a c, w < 7 ∧ a ≤ 9 ∧ c ≤ 9 ∧ imW T b i = nI w ∧ imA T b i = nI a ∧ imB T b i = nI c)
theorem itR_le {T : Nat → Int32} {b k p : Nat} (hp : p ≤ b) : (itR T b k p).2 ≤ b := by
  have hs0 := sk_le (T := T) hp
  have he0 := le_le (T := T) hs0.2
  have hs1 := sk_le (T := T) he0.2
  cases hR : (itR T b k p).1 with
  | true => exact (itR_5 hp hR).2.1
  | false =>
    unfold itR at hR ⊢
    by_cases c0 : itW T b p = -1 ∨ ¬ (itW T b p = 0 ↔ k = 0)
    · rw [if_pos c0]; exact hs0.2
    · rw [if_neg c0] at hR ⊢
      by_cases c1 : fgB T b (itA T b p) = false
      · rw [if_pos c1]; exact hs1.2
      · rw [if_neg c1] at hR ⊢
        have hA := fgB_lt (eq_true_of_ne_false c1)
        have hsB := sk_le (T := T) (b := b) (p := itA T b p + 1) (by omega)
        by_cases c2 : ¬ itW T b p = 0 ∧ fgB T b (itB T b p) = false
        · rw [if_pos c2]; exact hsB.2
        · rw [if_neg c2] at hR ⊢
          have hC : itC T b p ≤ b := by
            unfold itC
            split
            · exact hsB.2
            · next q =>
              have hB := fgB_lt (b := b) (s := itB T b p) (T := T) (by
                cases z : fgB T b (itB T b p) with
                | true => rfl
                | false => exact absurd ⟨q, z⟩ c2)
              exact (sk_le (T := T) (b := b) (p := itB T b p + 1) (by omega)).2
          by_cases c3 : itC T b p = b ∨ ¬ T (itC T b p) = 59
          · rw [if_pos c3]; exact hC
          · rw [if_neg c3] at hR; cases hR
theorem c_X9_findFault (T : Nat → Int32) (α : Nat → Nat) (I : fdI) (L : fdL) {b : Nat} (hb : b ≤ 150) (h : txX T b I) : Con fd_SX α yX9_findFault mX9_findFault [.ref (α 54)] I L (fd_ip (ffP T b I L)) := by
  refine Con.of (by decide) rfl (Nat.le_of_ble_eq_true rfl) ?_
  have loop : ∀ f k e, f + k = 60 → e ≤ b → psF T b k = sk T b e → 5 * k ≤ sk T b e → ((rdG T b f k = rdG T b 60 0 ∧ (k = 0 ∨ sk T b e < b)) ∨ (1 ≤ k ∧ sk T b e = b ∧ rdG T b 60 0 = (true, k))) → ∀ I1 : fdI, (∀ a, a ≠ 54 → a ≠ 55 → I1 a = I a) → I1 54 0 = I 54 0 → I1 54 1 = nI k → I1 54 4 = nI e → (∀ i, i < k → I1 55 i = itV T b (psF T b i) ∧ ∃ w a c, w < 7 ∧ a ≤ 9 ∧ c ≤ 9 ∧ imW T b i = nI w ∧ imA T b i = nI a ∧ imB T b i = nI c) → Rn fd_SX α mX9_findFault 12 [(1, .int (nI k)), (0, .ref (α 54))] [] I1 L (fd_ip (ffP T b I L)) := by
    intro f
    induction f with
    | zero =>
      intro k e hfk he _ h5
      have := sk_le (T := T) he
      omega
    | succ f ih =>
      intro k e hfk he hps h5 hst I1 g1 g0 gk ge gi
      have hske := sk_le (T := T) he
      have hid := sk_idem (T := T) he
      have h1 : txX T b I1 := h.same g0 (g1 56 (by decide) (by decide))
      have hk30 : k ≤ 30 := by omega
      by_cases hend : sk T b e = b ∧ 1 ≤ k
      · have hG : rdG T b 60 0 = (true, k) := by
          rcases hst with ⟨_, h2⟩ | ⟨_, _, h2⟩
          · rcases h2 with h2 | h2 <;> omega
          · exact h2
        refine r_iload_n dX9_findFault_12 rfl ?_
        refine r_bipush (v := 30) dX9_findFault_13 rfl ?_
        refine r_icmp_gt 58 dX9_findFault_15 (by decide) (fun h15 => absurd h15 (fun z => absurd ((nI_ltI (a := 30) (by decide) (by omega)).mp z) (by omega))) (fun h15 => ?_)
        refine r_aload_n dX9_findFault_18 rfl ?_
        refine r_cVq (As := []) (c_X9_nextToken T α _ _ hb h1 he ge) lk_9_29 rfl rfl (by decide) (by decide) rfl rfl (Nat.le_of_ble_eq_true rfl) dX9_findFault_19 (fun I19 L19 q19 => ?_)
        obtain ⟨rfl, f19, d19⟩ := q19
        have e1 : I19 54 1 = nI k := (f19.2 1 (by decide)).trans gk
        refine r_aload_n dX9_findFault_22 rfl ?_
        refine r_getV rfl rfl fl_9_32 dX9_findFault_23 ((tok_11 d19).mpr hend.1) ?_
        refine r_bipush (v := 11) dX9_findFault_26 rfl ?_
        refine r_icmp_ne 40 dX9_findFault_28 (by decide) (fun h28 => absurd h28 (not_not_intro rfl)) (fun h28 => ?_)
        refine r_aload_n dX9_findFault_31 rfl ?_
        refine r_getV rfl rfl fl_9_15 dX9_findFault_32 e1 ?_
        refine r_if_le 40 dX9_findFault_35 (by decide) (fun h35 => absurd h35 (fun q => absurd ((nI_leI (b := 0) (by omega) (by decide)).mp q) (by omega))) (fun h35 => ?_)
        refine r_iconst (v := (-1)) dX9_findFault_38 rfl ?_
        refine r_iret rfl dX9_findFault_39 ?_
        refine ⟨_, rfl, rfl, fun a a1 a2 => (f19.1 a a1).trans (g1 a a1 a2), (f19.2 0 (by decide)).trans g0, fun z => (by rw [hG] at z; cases z), fun _ => ?_⟩
        rw [hG]
        exact ⟨rfl, e1, hk30, fun i hi => by rw [f19.1 55 (by decide)]; exact gi i hi⟩
      · have hg : rdG T b (f + 1) k = rdG T b 60 0 := by
          rcases hst with ⟨h2, _⟩ | ⟨h2, h3, _⟩
          · exact h2
          · exact absurd ⟨h3, h2⟩ hend
        have hg2 : (if (itR T b k (psF T b k)).1 = true then (if psF T b (k + 1) < b then rdG T b f (k + 1) else (true, k + 1)) else (false, (itR T b k (psF T b k)).2)) = rdG T b 60 0 := hg
        rw [hps] at hg2
        have hkw : sk T b (sk T b e) < b → k < 30 := fun q => by rw [hid] at q; omega
        -- an item
        have item : ∀ I2 : fdI, tkF I1 I2 → tkD T b (sk T b e) I2 → Rn fd_SX α mX9_findFault 40 [(1, .int (nI k)), (0, .ref (α 54))] [] I2 L (fd_ip (ffP T b I L)) := by
          intro I2 f2 d2
          have d2' : tkD T b (sk T b (sk T b e)) I2 := by rw [hid]; exact d2
          have hle2 := itR_le (T := T) (k := k) hske.2
          cases hR : (itR T b k (sk T b e)).1 with
          | false =>
            rw [hR, if_neg (by decide)] at hg2
            refine r_aload_n dX9_findFault_40 rfl ?_
            refine r_cVp (As := []) (c_X9_takeItem T α _ _ hb (h1.tk f2) hske.2 d2' ((f2.2 1 (by decide)).trans gk) hk30 hkw) lk_9_35 rfl rfl (by decide) (by decide) rfl rfl (Nat.le_of_ble_eq_true rfl) dX9_findFault_41 (fun v41 I41 L41 q41 => ?_)
            obtain ⟨rfl, u1, u2, u3, u4, u5⟩ := q41
            obtain ⟨rfl, u6, u7⟩ := u5 hR
            refine r_if_ne 52 dX9_findFault_44 (by decide) (fun h44 => absurd h44 (not_not_intro rfl)) (fun h44 => ?_)
            refine r_aload_n dX9_findFault_47 rfl ?_
            refine r_getV rfl rfl fl_9_39 dX9_findFault_48 u7 ?_
            refine r_iret rfl dX9_findFault_51 ?_
            refine ⟨_, rfl, rfl, fun a a1 a2 => (u1 a a1 a2).trans ((f2.1 a a1).trans (g1 a a1 a2)), u2.trans ((f2.2 0 (by decide)).trans g0), fun _ => ?_, fun z => (by rw [← hg2] at z; cases z)⟩
            rw [← hg2]
            exact ⟨rfl, hle2⟩
          | true =>
            rw [hR, if_pos rfl] at hg2
            obtain ⟨r1, r2, w, a, c, hw, ha, hc, ew, ea, ec⟩ := itR_5 hske.2 hR
            have hsk2 := sk_le (T := T) r2
            have p1 : psF T b (k + 1) = sk T b (itR T b k (sk T b e)).2 := by show sk T b (itR T b k (psF T b k)).2 = _; rw [hps]
            rw [p1] at hg2
            have st2 : (rdG T b f (k + 1) = rdG T b 60 0 ∧ (k + 1 = 0 ∨ sk T b (itR T b k (sk T b e)).2 < b)) ∨ (1 ≤ k + 1 ∧ sk T b (itR T b k (sk T b e)).2 = b ∧ rdG T b 60 0 = (true, k + 1)) := by
              by_cases q : sk T b (itR T b k (sk T b e)).2 < b
              · rw [if_pos q] at hg2; exact Or.inl ⟨hg2, Or.inr q⟩
              · rw [if_neg q] at hg2; exact Or.inr ⟨by omega, by omega, hg2.symm⟩
            refine r_aload_n dX9_findFault_40 rfl ?_
            refine r_cVp (As := []) (c_X9_takeItem T α _ _ hb (h1.tk f2) hske.2 d2' ((f2.2 1 (by decide)).trans gk) hk30 hkw) lk_9_35 rfl rfl (by decide) (by decide) rfl rfl (Nat.le_of_ble_eq_true rfl) dX9_findFault_41 (fun v41 I41 L41 q41 => ?_)
            obtain ⟨rfl, u1, u2, u3, u4, u5⟩ := q41
            obtain ⟨rfl, u6, u7, u8⟩ := u4 hR
            refine r_if_ne 52 dX9_findFault_44 (by decide) (fun h44 => ?_) (fun h44 => absurd h44 (by decide))
            refine r_iinc (v := _ + 1) (lv' := [(1, _), (0, _)]) dX9_findFault_52 rfl rfl (Nat.le_of_ble_eq_true rfl) rfl ?_
            refine r_goto (tgt := 12) dX9_findFault_55 (by decide) ?_
            rw [nI_1]
            refine r_keep [1, 0] rfl (ih (k + 1) _ (by omega) r2 p1 (by omega) st2 _ (fun a a1 a2 => (u1 a a1 a2).trans ((f2.1 a a1).trans (g1 a a1 a2))) (u2.trans ((f2.2 0 (by decide)).trans g0)) u6 u7 (fun i hi => ?_))
            by_cases q : i = k
            · rw [q, hps]
              unfold imW imA imB
              rw [hps]
              exact ⟨u8, w, a, c, hw, ha, hc, ew, ea, ec⟩
            · rw [u3 i q, f2.1 55 (by decide)]; exact gi i (by omega)
        by_cases hb2 : sk T b e = b
        · have hk0 : k = 0 := by
            rcases Nat.eq_zero_or_pos k with q | q
            · exact q
            · exact absurd ⟨hb2, q⟩ hend
          refine r_iload_n dX9_findFault_12 rfl ?_
          refine r_bipush (v := 30) dX9_findFault_13 rfl ?_
          refine r_icmp_gt 58 dX9_findFault_15 (by decide) (fun h15 => absurd h15 (fun z => absurd ((nI_ltI (a := 30) (by decide) (by omega)).mp z) (by omega))) (fun h15 => ?_)
          refine r_aload_n dX9_findFault_18 rfl ?_
          refine r_cVq (As := []) (c_X9_nextToken T α _ _ hb h1 he ge) lk_9_29 rfl rfl (by decide) (by decide) rfl rfl (Nat.le_of_ble_eq_true rfl) dX9_findFault_19 (fun I19 L19 q19 => ?_)
          obtain ⟨rfl, f19, d19⟩ := q19
          have e1 : I19 54 1 = 0 := ((f19.2 1 (by decide)).trans gk).trans (by rw [hk0]; rfl)
          refine r_aload_n dX9_findFault_22 rfl ?_
          refine r_getV rfl rfl fl_9_32 dX9_findFault_23 ((tok_11 d19).mpr hb2) ?_
          refine r_bipush (v := 11) dX9_findFault_26 rfl ?_
          refine r_icmp_ne 40 dX9_findFault_28 (by decide) (fun h28 => absurd h28 (not_not_intro rfl)) (fun h28 => ?_)
          refine r_aload_n dX9_findFault_31 rfl ?_
          refine r_getV rfl rfl fl_9_15 dX9_findFault_32 e1 ?_
          refine r_if_le 40 dX9_findFault_35 (by decide) (fun h35 => ?_) (fun h35 => absurd h35 (not_not_intro (Int32.le_refl _)))
          exact r_keep [1, 0] rfl (item _ f19 d19)
        · refine r_iload_n dX9_findFault_12 rfl ?_
          refine r_bipush (v := 30) dX9_findFault_13 rfl ?_
          refine r_icmp_gt 58 dX9_findFault_15 (by decide) (fun h15 => absurd h15 (fun z => absurd ((nI_ltI (a := 30) (by decide) (by omega)).mp z) (by omega))) (fun h15 => ?_)
          refine r_aload_n dX9_findFault_18 rfl ?_
          refine r_cVq (As := []) (c_X9_nextToken T α _ _ hb h1 he ge) lk_9_29 rfl rfl (by decide) (by decide) rfl rfl (Nat.le_of_ble_eq_true rfl) dX9_findFault_19 (fun I19 L19 q19 => ?_)
          obtain ⟨rfl, f19, d19⟩ := q19
          refine r_aload_n dX9_findFault_22 rfl ?_
          refine r_getI rfl rfl fl_9_32 dX9_findFault_23 ?_
          refine r_bipush (v := 11) dX9_findFault_26 rfl ?_
          refine r_icmp_ne 40 dX9_findFault_28 (by decide) (fun h28 => ?_) (fun h28 => absurd h28 (fun q => hb2 ((tok_11 d19).mp q)))
          exact r_keep [1, 0] rfl (item _ f19 d19)
  refine r_aload_n dX9_findFault_0 rfl ?_
  refine r_iconst (v := 0) dX9_findFault_1 rfl ?_
  refine r_putI rfl rfl fl_9_26 fw_9_4 dX9_findFault_2 ?_
  refine r_aload_n dX9_findFault_5 rfl ?_
  refine r_iconst (v := 0) dX9_findFault_6 rfl ?_
  refine r_putI rfl rfl fl_9_15 fw_9_1 dX9_findFault_7 ?_
  refine r_iconst (v := 0) dX9_findFault_10 rfl ?_
  refine r_istore_n (lv' := [(1, _), (0, _)]) dX9_findFault_11 (Nat.le_of_ble_eq_true rfl) rfl ?_
  exact r_keep [1, 0] rfl (loop 60 0 0 rfl (Nat.zero_le _) rfl (Nat.zero_le _) (Or.inl ⟨rfl, Or.inl rfl⟩) _ (fun a a1 _ => by rw [fd_up_cell a1, fd_up_cell a1]) (by rw [fd_up_pl (by decide), fd_up_pl (by decide)]) fd_up_same ((fd_up_pl (by decide)).trans fd_up_same) (fun i hi => absurd hi (by omega)))
