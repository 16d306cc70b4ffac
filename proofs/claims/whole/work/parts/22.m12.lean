/-! the model: the fewest notes, the search -/
def fwA (f : Nat → Bool) (g : Nat → Nat) : Nat → Nat → Int32
  | 0, _ => -1
  | m + 1, a => if f a then nI (g a) else fwA f g m (a + 1)
theorem fwA_no {f : Nat → Bool} {g : Nat → Nat} : ∀ m a, (∀ b, f b = false) → fwA f g m a = -1 := by
  intro m
  induction m with
  | zero => intro a _; rfl
  | succ m ih =>
    intro a h
    show (if f a = true then _ else _) = _
    rw [if_neg (by rw [h a]; decide)]
    exact ih (a + 1) h
def fi1 (V : pV) (n nn nt : Nat) (p : Nat → Nat) (a : Nat) : Bool := adB V n nn a && awB (adW V nn a) n (nn + 1) nt p
def fi2 (V : pV) (n nn nt : Nat) (p : Nat → Nat) (a b : Nat) : Bool := adB V n nn a && (adB (adW V nn a) n (nn + 1) b && awB (adW (adW V nn a) (nn + 1) b) n (nn + 1 + 1) nt p)
def fw1 (V : pV) (n nn nt : Nat) (p : Nat → Nat) (m a : Nat) : Int32 := fwA (fi1 V n nn nt p) (fun a => 100 * a + 99) m a
def fw2 (V : pV) (n nn nt : Nat) (p : Nat → Nat) (a m b : Nat) : Int32 := fwA (fi2 V n nn nt p a) (fun b => 100 * a + b) m b
def fwB (V : pV) (n nn nt : Nat) (p : Nat → Nat) : Nat → Nat → Int32
  | 0, _ => -1
  | m + 1, a => if fw2 V n nn nt p a (69 - a) (a + 1) = -1 then fwB V n nn nt p m (a + 1) else fw2 V n nn nt p a (69 - a) (a + 1)
def fwV (V : pV) (n nn nt : Nat) (p : Nat → Nat) : Int32 := if awB V n nn nt p = true then 9999 else if fw1 V n nn nt p 70 0 = -1 then fwB V n nn nt p 70 0 else fw1 V n nn nt p 70 0
/-- only what is reckoned anew, and rows behind the notes, have changed -/
def sN (I J : fdI) (nn : Nat) : Prop := (∀ a, a ≠ 0 → a ≠ 7 → a ≠ 8 → a ≠ 13 → a ≠ 14 → a ≠ 15 → a ≠ 16 → a ≠ 17 → a ≠ 18 → a ≠ 19 → J a = I a) ∧ (∀ j, j ≠ 22 → J 0 j = I 0 j) ∧ ∀ k, k < nn → J 7 k = I 7 k ∧ J 8 k = I 8 k
theorem sN.rfl' {I : fdI} {nn : Nat} : sN I I nn := ⟨fun _ _ _ _ _ _ _ _ _ _ _ => rfl, fun _ _ => rfl, fun _ _ => ⟨rfl, rfl⟩⟩
theorem sN.of {I J : fdI} {nn : Nat} (h : mSm I J) : sN I J nn := ⟨fun a a0 _ _ a3 a4 a5 a6 a7 a8 a9 => h.1 a a0 a3 a4 a5 a6 a7 a8 a9, h.2, fun k _ => ⟨by rw [h.1 7 (by decide) (by decide) (by decide) (by decide) (by decide) (by decide) (by decide) (by decide)], by rw [h.1 8 (by decide) (by decide) (by decide) (by decide) (by decide) (by decide) (by decide) (by decide)]⟩⟩
theorem sN.trans {I J K : fdI} {nn : Nat} (h : sN I J nn) (h2 : sN J K nn) : sN I K nn := ⟨fun a a0 a1 a2 a3 a4 a5 a6 a7 a8 a9 => (h2.1 a a0 a1 a2 a3 a4 a5 a6 a7 a8 a9).trans (h.1 a a0 a1 a2 a3 a4 a5 a6 a7 a8 a9), fun j hj => (h2.2.1 j hj).trans (h.2.1 j hj), fun k hk => ⟨(h2.2.2 k hk).1.trans (h.2.2 k hk).1, (h2.2.2 k hk).2.trans (h.2.2 k hk).2⟩⟩
theorem sN.back {I J K : fdI} {nn a : Nat} (hn : I 0 7 = nI nn) (h : sN I J nn) (h2 : sN (adI J nn a) K (nn + 1)) : sN I (fd_up K 0 7 (nI nn)) nn := by
  refine ⟨fun c a0 a1 a2 a3 a4 a5 a6 a7 a8 a9 => ?_, fun j hj => ?_, fun k hk => ?_⟩
  · rw [fd_up_cell a0, h2.1 c a0 a1 a2 a3 a4 a5 a6 a7 a8 a9]
    unfold adI
    rw [fd_up_cell a0, fd_up_cell a2, fd_up_cell a1]
    exact h.1 c a0 a1 a2 a3 a4 a5 a6 a7 a8 a9
  · rw [fd_up_at]
    by_cases q : j = 7
    · rw [if_pos q, q, hn]
    · rw [if_neg q, h2.2.1 j hj]
      unfold adI
      rw [fd_up_pl q, fd_up_ne (by decide), fd_up_ne (by decide)]
      exact h.2.1 j hj
  · rw [fd_up_ne (by decide), fd_up_ne (by decide), (h2.2.2 k (by omega)).1, (h2.2.2 k (by omega)).2]
    unfold adI
    rw [fd_up_ne (k := 0) (by decide), fd_up_ne (k := 8) (a := 7) (by decide), fd_up_pl (by omega), fd_up_ne (k := 0) (by decide), fd_up_pl (by omega), fd_up_ne (k := 7) (by decide)]
    exact h.2.2 k hk
theorem mOk.sN {V : pV} {I J : fdI} {n nn np nt : Nat} (h : mOk V I n nn np nt) (hs : sN I J nn) : mOk V J n nn np nt := by
  obtain ⟨h1, h2, h3, h4, h5, h6, h7, h8, h9, h10⟩ := h
  have e : ∀ a, a = 2 ∨ a = 3 ∨ a = 4 ∨ a = 5 ∨ a = 9 ∨ a = 10 ∨ a = 11 ∨ a = 12 → J a = I a := fun a ha => hs.1 a (by omega) (by omega) (by omega) (by omega) (by omega) (by omega) (by omega) (by omega) (by omega) (by omega)
  refine ⟨(hs.2.1 1 (by decide)).trans h1, h2, (hs.2.1 7 (by decide)).trans h3, h4, (hs.2.1 10 (by decide)).trans h5, h6, (hs.2.1 13 (by decide)).trans h7, h8, ⟨fun d hd => ?_, fun k hk => ?_, fun k hk => ?_, fun k hk => ?_⟩, h10⟩
  · obtain ⟨g1, g2, g3, g4, g5⟩ := h9.1 d hd
    exact ⟨(congrFun (e 2 (by decide)) d).trans g1, (congrFun (e 3 (by decide)) d).trans g2, (congrFun (e 4 (by decide)) d).trans g3, (congrFun (e 5 (by decide)) d).trans g4, (congrFun (e 12 (by decide)) d).trans g5⟩
  · exact ⟨(hs.2.2 k hk).1.trans (h9.2.1 k hk).1, (hs.2.2 k hk).2.trans (h9.2.1 k hk).2⟩
  · exact ⟨(congrFun (e 9 (by decide)) k).trans (h9.2.2.1 k hk).1, (congrFun (e 10 (by decide)) k).trans (h9.2.2.1 k hk).2⟩
  · exact (congrFun (e 11 (by decide)) k).trans (h9.2.2.2 k hk)
theorem sN.row {I J : fdI} {nn : Nat} (hs : sN I J nn) : J 6 = I 6 := hs.1 6 (by decide) (by decide) (by decide) (by decide) (by decide) (by decide) (by decide) (by decide) (by decide) (by decide)
set_option maxHeartbeats 1000000 in
theorem c_fewest (V : pV) (α : Nat → Nat) (I : fdI) (L : fdL) {n nn np nt : Nat} {p : Nat → Nat} (h : mOk V I n nn np nt) (hrow : ∀ k, k < n → I 6 k = nI (p k)) (hp : isP p n) : Con fd_SM α yX11_fewest mX11_fewest [.ref (α 0)] I L (fd_ip (fun v I' L' => v = .int (fwV V n nn nt p) ∧ sN I I' nn ∧ L' = L)) := by
  refine Con.of (by decide) rfl (Nat.le_of_ble_eq_true rfl) ?_
  have hn7 := h.2.1
  have hnn := h.2.2.2.1
  by_cases h0 : awB V n nn nt p = true
  · have ev : fwV V n nn nt p = 9999 := if_pos h0
    rw [ev]
    refine r_aload_n dX11_fewest_0 rfl ?_
    refine r_cVp (As := []) (c_areWell V α _ _ h hrow hp) lk_11_187 rfl rfl (by decide) (by decide) rfl rfl (Nat.le_of_ble_eq_true rfl) dX11_fewest_1 (fun v1 I1 L1 q1 => ?_)
    obtain ⟨rfl, s1, e1⟩ := q1
    refine r_if_eq 11 dX11_fewest_4 (by decide) (fun h4 => absurd h4 (fd_bn.mpr h0)) (fun h4 => ?_)
    refine r_sipush (v := 9999) dX11_fewest_7 rfl ?_
    refine r_iret rfl dX11_fewest_10 ?_
    exact ⟨_, rfl, rfl, sN.of s1, e1⟩
  · have ev : fwV V n nn nt p = if fw1 V n nn nt p 70 0 = -1 then fwB V n nn nt p 70 0 else fw1 V n nn nt p 70 0 := if_neg h0
    rw [ev]
    generalize hR : (if fw1 V n nn nt p 70 0 = -1 then fwB V n nn nt p 70 0 else fw1 V n nn nt p 70 0) = R
    have rowOf : ∀ J : fdI, sN I J nn → ∀ k, k < n → J 6 k = nI (p k) := fun J hs k hk => by rw [hs.row]; exact hrow k hk
    -- all found: the end
    have fin : ∀ v, v = R → ∀ I1 : fdI, sN I I1 nn → ∀ L1 : fdL, L1 = L → Rn fd_SM α mX11_fewest 163 [(1, .int v), (0, .ref (α 0))] [] I1 L1 (fd_ip (fun v I' L' => v = .int R ∧ sN I I' nn ∧ L' = L)) := by
      intro v hv I1 s1 L1 e1
      subst hv
      refine r_iload_n dX11_fewest_163 rfl ?_
      refine r_iret rfl dX11_fewest_164 ?_
      exact ⟨_, rfl, rfl, s1, e1⟩
    have found2 : ∀ v, v = R → ¬ v = -1 → ∀ a, a ≤ 70 → ∀ I1 : fdI, sN I I1 nn → ∀ L1 : fdL, L1 = L → Rn fd_SM α mX11_fewest 71 [(2, .int (nI a)), (1, .int v), (0, .ref (α 0))] [] I1 L1 (fd_ip (fun v I' L' => v = .int R ∧ sN I I' nn ∧ L' = L)) := by
      intro v hv hne a ha I1 s1 L1 e1
      refine r_iload_n dX11_fewest_71 rfl ?_
      refine r_bipush (v := 70) dX11_fewest_72 rfl ?_
      refine r_icmp_ge 163 dX11_fewest_74 (by decide) (fun h74 => ?_) (fun h74 => ?_)
      · exact r_keep [1, 0] rfl (fin v hv I1 s1 L1 e1)
      · refine r_iload_n dX11_fewest_77 rfl ?_
        refine r_iconst (v := (-1)) dX11_fewest_78 rfl ?_
        refine r_icmp_ne 163 dX11_fewest_79 (by decide) (fun h79 => ?_) (fun h79 => absurd h79 hne)
        exact r_keep [1, 0] rfl (fin v hv I1 s1 L1 e1)
    have loop2 : fw1 V n nn nt p 70 0 = -1 → ∀ m a, a + m = 70 → fwB V n nn nt p m a = R → ∀ I1 : fdI, sN I I1 nn → ∀ L1 : fdL, L1 = L → Rn fd_SM α mX11_fewest 71 [(2, .int (nI a)), (1, .int (-1)), (0, .ref (α 0))] [] I1 L1 (fd_ip (fun v I' L' => v = .int R ∧ sN I I' nn ∧ L' = L)) := by
      intro hf1 m
      induction m with
      | zero =>
        intro a ha hB I1 s1 L1 e1
        have : a = 70 := by omega
        subst this
        refine r_iload_n dX11_fewest_71 rfl ?_
        refine r_bipush (v := 70) dX11_fewest_72 rfl ?_
        refine r_icmp_ge 163 dX11_fewest_74 (by decide) (fun h74 => ?_) (fun h74 => absurd h74 (by decide))
        exact r_keep [1, 0] rfl (fin (-1) hB I1 s1 L1 e1)
      | succ m ih =>
        intro a ha hB I1 s1 L1 e1
        have h1 := h.sN s1
        by_cases hb : adB V n nn a = true
        · have h2 := adW_ok h1 hb
          -- behind the second note
          have ex : ∀ v, v = fw2 V n nn nt p a (69 - a) (a + 1) → ∀ I2 : fdI, sN (adI I1 nn a) I2 (nn + 1) → ∀ L2 : fdL, L2 = L → Rn fd_SM α mX11_fewest 147 [(2, .int (nI a)), (1, .int v), (0, .ref (α 0))] [] I2 L2 (fd_ip (fun v I' L' => v = .int R ∧ sN I I' nn ∧ L' = L)) := by
            intro v hv I2 s2 L2 e2
            have n2 : I2 0 7 = nI (nn + 1) := s2.2.1 7 (by decide)
            have s3 := s1.back h.2.2.1 s2
            refine r_aload_n dX11_fewest_147 rfl ?_
            refine r_dup dX11_fewest_148 rfl ?_
            refine r_getV rfl rfl fl_11_103 dX11_fewest_149 n2 ?_
            refine r_iconst (v := 1) dX11_fewest_152 rfl ?_
            refine r_isub dX11_fewest_153 ?_
            rw [nI_pred]
            refine r_putI rfl rfl fl_11_103 fw_11_7 dX11_fewest_154 ?_
            refine r_iinc (v := _ + 1) (lv' := [(2, _), (1, _), (0, _)]) dX11_fewest_157 rfl rfl (Nat.le_of_ble_eq_true rfl) rfl ?_
            refine r_goto (tgt := 71) dX11_fewest_160 (by decide) ?_
            rw [nI_1]
            refine r_keep [2, 1, 0] rfl ?_
            by_cases hv1 : v = -1
            · subst hv1
              refine ih (a + 1) (by omega) ?_ _ s3 _ e2
              rw [← hB]
              exact (if_pos hv.symm).symm
            · refine found2 v ?_ hv1 (a + 1) (by omega) _ s3 _ e2
              rw [← hB, hv]
              exact (if_neg (by rw [← hv]; exact hv1)).symm
          have loop3 : ∀ m2 b, b + m2 = 70 → a < b → fw2 V n nn nt p a m2 b = fw2 V n nn nt p a (69 - a) (a + 1) → ∀ I2 : fdI, sN (adI I1 nn a) I2 (nn + 1) → ∀ L2 : fdL, L2 = L → Rn fd_SM α mX11_fewest 94 [(3, .int (nI b)), (2, .int (nI a)), (1, .int (-1)), (0, .ref (α 0))] [] I2 L2 (fd_ip (fun v I' L' => v = .int R ∧ sN I I' nn ∧ L' = L)) := by
            intro m2
            induction m2 with
            | zero =>
              intro b hb2 hab hA I2 s2 L2 e2
              have : b = 70 := by omega
              subst this
              refine r_iload_n dX11_fewest_94 rfl ?_
              refine r_bipush (v := 70) dX11_fewest_95 rfl ?_
              refine r_icmp_ge 147 dX11_fewest_97 (by decide) (fun h97 => ?_) (fun h97 => absurd h97 (by decide))
              exact r_keep [2, 1, 0] rfl (ex (-1) hA I2 s2 L2 e2)
            | succ m2 ih3 =>
              intro b hb2 hab hA I2 s2 L2 e2
              have h3 := h2.sN s2
              have rw3 : ∀ k, k < n → I2 6 k = nI (p k) := fun k hk => by rw [s2.row]; exact rowOf I1 s1 k hk
              have next : ∀ v, (v = -1 → fw2 V n nn nt p a m2 (b + 1) = fw2 V n nn nt p a (69 - a) (a + 1)) → (¬ v = -1 → v = fw2 V n nn nt p a (69 - a) (a + 1)) → ∀ I3 : fdI, sN (adI I1 nn a) I3 (nn + 1) → ∀ L3 : fdL, L3 = L → Rn fd_SM α mX11_fewest 141 [(3, .int (nI b)), (2, .int (nI a)), (1, .int v), (0, .ref (α 0))] [] I3 L3 (fd_ip (fun v I' L' => v = .int R ∧ sN I I' nn ∧ L' = L)) := by
                intro v hv1 hv2 I3 s3 L3 e3
                by_cases hv : v = -1
                · subst hv
                  refine r_iinc (v := _ + 1) (lv' := [(3, _), (2, _), (1, _), (0, _)]) dX11_fewest_141 rfl rfl (Nat.le_of_ble_eq_true rfl) rfl ?_
                  refine r_goto (tgt := 94) dX11_fewest_144 (by decide) ?_
                  rw [nI_1]
                  exact r_keep [3, 2, 1, 0] rfl (ih3 (b + 1) (by omega) (by omega) (hv1 rfl) I3 s3 L3 e3)
                · refine r_iinc (v := _ + 1) (lv' := [(3, _), (2, _), (1, _), (0, _)]) dX11_fewest_141 rfl rfl (Nat.le_of_ble_eq_true rfl) rfl ?_
                  refine r_goto (tgt := 94) dX11_fewest_144 (by decide) ?_
                  refine r_iload_n dX11_fewest_94 rfl ?_
                  refine r_bipush (v := 70) dX11_fewest_95 rfl ?_
                  refine r_icmp_ge 147 dX11_fewest_97 (by decide) (fun h97 => ?_) (fun h97 => ?_)
                  · exact r_keep [2, 1, 0] rfl (ex v (hv2 hv) I3 s3 L3 e3)
                  · refine r_iload_n dX11_fewest_100 rfl ?_
                    refine r_iconst (v := (-1)) dX11_fewest_101 rfl ?_
                    refine r_icmp_ne 147 dX11_fewest_102 (by decide) (fun h102 => ?_) (fun h102 => absurd h102 hv)
                    exact r_keep [2, 1, 0] rfl (ex v (hv2 hv) I3 s3 L3 e3)
              by_cases hc : adB (adW V nn a) n (nn + 1) b = true
              · have h4 := adW_ok h3 hc
                refine r_iload_n dX11_fewest_94 rfl ?_
                refine r_bipush (v := 70) dX11_fewest_95 rfl ?_
                refine r_icmp_ge 147 dX11_fewest_97 (by decide) (fun h97 => absurd h97 (fun q => absurd ((nI_leI (a := 70) (by omega) (by omega)).mp q) (by omega))) (fun h97 => ?_)
                refine r_iload_n dX11_fewest_100 rfl ?_
                refine r_iconst (v := (-1)) dX11_fewest_101 rfl ?_
                refine r_icmp_ne 147 dX11_fewest_102 (by decide) (fun h102 => absurd h102 (by decide)) (fun h102 => ?_)
                refine r_aload_n dX11_fewest_105 rfl ?_
                refine r_iload_n dX11_fewest_106 rfl ?_
                refine r_cVr (As := [_]) (c_adds (adW V nn a) α _ _ b (by omega) h3) lk_11_190 rfl rfl (by decide) (by decide) rfl rfl (Nat.le_of_ble_eq_true rfl) dX11_fewest_107 ?_
                rw [if_pos hc]
                refine r_if_eq 141 dX11_fewest_110 (by decide) (fun h110 => absurd h110 (fd_bn.mpr hc)) (fun h110 => ?_)
                refine r_aload_n dX11_fewest_113 rfl ?_
                refine r_cVp (As := []) (c_areWell _ α _ _ h4 rw3 hp) lk_11_187 rfl rfl (by decide) (by decide) rfl rfl (Nat.le_of_ble_eq_true rfl) dX11_fewest_114 (fun v114 I114 L114 q114 => ?_)
                obtain ⟨rfl, s114, e114⟩ := q114
                have n4 : I114 0 7 = nI (nn + 1 + 1) := s114.2 7 (by decide)
                have s5 := s2.back (show (adI I1 nn a) 0 7 = nI (nn + 1) from rfl) (sN.of s114)
                refine r_if_eq 129 dX11_fewest_117 (by decide) (fun h117 => ?_) (fun h117 => ?_)
                · have z := fd_b0.mp h117
                  have ev1 : fw2 V n nn nt p a m2 (b + 1) = fw2 V n nn nt p a (69 - a) (a + 1) := by
                    rw [← hA]
                    refine (if_neg (fun q => z ?_)).symm
                    unfold fi2 at q
                    simp only [Bool.and_eq_true] at q
                    exact q.2.2
                  have ev2 := fun (_ : ¬ (-1 : Int32) = -1) => (rfl : (-1 : Int32) = -1)
                  refine r_iconst (v := (-1)) dX11_fewest_129 rfl ?_
                  refine r_istore_n (lv' := [(1, _), (3, _), (2, _), (0, _)]) dX11_fewest_130 (Nat.le_of_ble_eq_true rfl) rfl ?_
                  refine r_aload_n dX11_fewest_131 rfl ?_
                  refine r_dup dX11_fewest_132 rfl ?_
                  refine r_getV rfl rfl fl_11_103 dX11_fewest_133 n4 ?_
                  refine r_iconst (v := 1) dX11_fewest_136 rfl ?_
                  refine r_isub dX11_fewest_137 ?_
                  rw [nI_pred]
                  refine r_putI rfl rfl fl_11_103 fw_11_7 dX11_fewest_138 ?_
                  first
                    | exact r_keep [3, 2, 1, 0] rfl (next _ (fun q => absurd (q ▸ rfl : nI (100 * a + b) = -1) (fun w => nI_pos (n := 100 * a + b) (by omega) (by rw [w]; decide))) (fun _ => ev3) _ s5 _ (e114.trans e2))
                    | exact r_keep [3, 2, 1, 0] rfl (next (-1) (fun _ => ev1) (fun q => absurd rfl q) _ s5 _ (e114.trans e2))
                · have z := fd_bn.mp h117
                  have ev3 : nI (100 * a + b) = fw2 V n nn nt p a (69 - a) (a + 1) := by
                    rw [← hA]
                    refine (if_pos ?_).symm
                    unfold fi2
                    rw [hb, hc, z]
                    rfl
                  refine r_bipush (v := 100) dX11_fewest_120 rfl ?_
                  refine r_iload_n dX11_fewest_122 rfl ?_
                  refine r_imul dX11_fewest_123 ?_
                  rw [show (100 : Int32) * nI a = nI (100 * a) from pk_mul 100 a]
                  refine r_iload_n dX11_fewest_124 rfl ?_
                  refine r_iadd dX11_fewest_125 ?_
                  rw [nI_add]
                  refine r_goto (tgt := 130) dX11_fewest_126 (by decide) ?_
                  refine r_istore_n (lv' := [(1, _), (3, _), (2, _), (0, _)]) dX11_fewest_130 (Nat.le_of_ble_eq_true rfl) rfl ?_
                  refine r_aload_n dX11_fewest_131 rfl ?_
                  refine r_dup dX11_fewest_132 rfl ?_
                  refine r_getV rfl rfl fl_11_103 dX11_fewest_133 n4 ?_
                  refine r_iconst (v := 1) dX11_fewest_136 rfl ?_
                  refine r_isub dX11_fewest_137 ?_
                  rw [nI_pred]
                  refine r_putI rfl rfl fl_11_103 fw_11_7 dX11_fewest_138 ?_
                  first
                    | exact r_keep [3, 2, 1, 0] rfl (next _ (fun q => absurd (q ▸ rfl : nI (100 * a + b) = -1) (fun w => nI_pos (n := 100 * a + b) (by omega) (by rw [w]; decide))) (fun _ => ev3) _ s5 _ (e114.trans e2))
                    | exact r_keep [3, 2, 1, 0] rfl (next (-1) (fun _ => ev1) (fun q => absurd rfl q) _ s5 _ (e114.trans e2))
              · refine r_iload_n dX11_fewest_94 rfl ?_
                refine r_bipush (v := 70) dX11_fewest_95 rfl ?_
                refine r_icmp_ge 147 dX11_fewest_97 (by decide) (fun h97 => absurd h97 (fun q => absurd ((nI_leI (a := 70) (by omega) (by omega)).mp q) (by omega))) (fun h97 => ?_)
                refine r_iload_n dX11_fewest_100 rfl ?_
                refine r_iconst (v := (-1)) dX11_fewest_101 rfl ?_
                refine r_icmp_ne 147 dX11_fewest_102 (by decide) (fun h102 => absurd h102 (by decide)) (fun h102 => ?_)
                refine r_aload_n dX11_fewest_105 rfl ?_
                refine r_iload_n dX11_fewest_106 rfl ?_
                refine r_cVr (As := [_]) (c_adds (adW V nn a) α _ _ b (by omega) h3) lk_11_190 rfl rfl (by decide) (by decide) rfl rfl (Nat.le_of_ble_eq_true rfl) dX11_fewest_107 ?_
                rw [if_neg hc]
                refine r_if_eq 141 dX11_fewest_110 (by decide) (fun h110 => ?_) (fun h110 => absurd h110 (not_not_intro (fd_b0.mpr hc)))
                refine r_keep [3, 2, 1, 0] rfl (next (-1) (fun _ => ?_) (fun q => absurd rfl q) _ s2 _ e2)
                rw [← hA]
                refine (if_neg (fun q => hc ?_)).symm
                unfold fi2 at q
                simp only [Bool.and_eq_true] at q
                exact q.2.1
          refine r_iload_n dX11_fewest_71 rfl ?_
          refine r_bipush (v := 70) dX11_fewest_72 rfl ?_
          refine r_icmp_ge 163 dX11_fewest_74 (by decide) (fun h74 => absurd h74 (fun q => absurd ((nI_leI (a := 70) (by omega) (by omega)).mp q) (by omega))) (fun h74 => ?_)
          refine r_iload_n dX11_fewest_77 rfl ?_
          refine r_iconst (v := (-1)) dX11_fewest_78 rfl ?_
          refine r_icmp_ne 163 dX11_fewest_79 (by decide) (fun h79 => absurd h79 (by decide)) (fun h79 => ?_)
          refine r_aload_n dX11_fewest_82 rfl ?_
          refine r_iload_n dX11_fewest_83 rfl ?_
          refine r_cVr (As := [_]) (c_adds V α _ _ a (by omega) h1) lk_11_190 rfl rfl (by decide) (by decide) rfl rfl (Nat.le_of_ble_eq_true rfl) dX11_fewest_84 ?_
          rw [if_pos hb]
          refine r_if_eq 157 dX11_fewest_87 (by decide) (fun h87 => absurd h87 (fd_bn.mpr hb)) (fun h87 => ?_)
          refine r_iload_n dX11_fewest_90 rfl ?_
          refine r_iconst (v := 1) dX11_fewest_91 rfl ?_
          refine r_iadd dX11_fewest_92 ?_
          rw [nI_1]
          refine r_istore_n (lv' := [(3, _), (2, _), (1, _), (0, _)]) dX11_fewest_93 (Nat.le_of_ble_eq_true rfl) rfl ?_
          exact r_keep [3, 2, 1, 0] rfl (loop3 (69 - a) (a + 1) (by omega) (by omega) rfl _ sN.rfl' _ e1)
        · refine r_iload_n dX11_fewest_71 rfl ?_
          refine r_bipush (v := 70) dX11_fewest_72 rfl ?_
          refine r_icmp_ge 163 dX11_fewest_74 (by decide) (fun h74 => absurd h74 (fun q => absurd ((nI_leI (a := 70) (by omega) (by omega)).mp q) (by omega))) (fun h74 => ?_)
          refine r_iload_n dX11_fewest_77 rfl ?_
          refine r_iconst (v := (-1)) dX11_fewest_78 rfl ?_
          refine r_icmp_ne 163 dX11_fewest_79 (by decide) (fun h79 => absurd h79 (by decide)) (fun h79 => ?_)
          refine r_aload_n dX11_fewest_82 rfl ?_
          refine r_iload_n dX11_fewest_83 rfl ?_
          refine r_cVr (As := [_]) (c_adds V α _ _ a (by omega) h1) lk_11_190 rfl rfl (by decide) (by decide) rfl rfl (Nat.le_of_ble_eq_true rfl) dX11_fewest_84 ?_
          rw [if_neg hb]
          refine r_if_eq 157 dX11_fewest_87 (by decide) (fun h87 => ?_) (fun h87 => absurd h87 (not_not_intro (fd_b0.mpr hb)))
          refine r_iinc (v := _ + 1) (lv' := [(2, _), (1, _), (0, _)]) dX11_fewest_157 rfl rfl (Nat.le_of_ble_eq_true rfl) rfl ?_
          refine r_goto (tgt := 71) dX11_fewest_160 (by decide) ?_
          rw [nI_1]
          refine r_keep [2, 1, 0] rfl (ih (a + 1) (by omega) ?_ I1 s1 L1 e1)
          rw [← hB]
          refine (if_pos ?_).symm
          exact fwA_no _ _ (fun b => by unfold fi2; rw [Bool.eq_false_iff.mpr hb]; rfl)
    have ex1 : ∀ v, v = fw1 V n nn nt p 70 0 → ∀ I1 : fdI, sN I I1 nn → ∀ L1 : fdL, L1 = L → Rn fd_SM α mX11_fewest 69 [(1, .int v), (0, .ref (α 0))] [] I1 L1 (fd_ip (fun v I' L' => v = .int R ∧ sN I I' nn ∧ L' = L)) := by
      intro v hv I1 s1 L1 e1
      refine r_iconst (v := 0) dX11_fewest_69 rfl ?_
      refine r_istore_n (lv' := [(2, _), (1, _), (0, _)]) dX11_fewest_70 (Nat.le_of_ble_eq_true rfl) rfl ?_
      refine r_keep [2, 1, 0] rfl ?_
      by_cases hv1 : v = -1
      · subst hv1
        exact loop2 hv.symm 70 0 rfl (by rw [← hR, if_pos hv.symm]) I1 s1 L1 e1
      · exact found2 v (by rw [← hR, if_neg (by rw [← hv]; exact hv1)]; exact hv) hv1 0 (by omega) I1 s1 L1 e1
    have loop1 : ∀ m a, a + m = 70 → fw1 V n nn nt p m a = fw1 V n nn nt p 70 0 → ∀ I1 : fdI, sN I I1 nn → ∀ L1 : fdL, L1 = L → Rn fd_SM α mX11_fewest 15 [(2, .int (nI a)), (1, .int (-1)), (0, .ref (α 0))] [] I1 L1 (fd_ip (fun v I' L' => v = .int R ∧ sN I I' nn ∧ L' = L)) := by
      intro m
      induction m with
      | zero =>
        intro a ha hA I1 s1 L1 e1
        have : a = 70 := by omega
        subst this
        refine r_iload_n dX11_fewest_15 rfl ?_
        refine r_bipush (v := 70) dX11_fewest_16 rfl ?_
        refine r_icmp_ge 69 dX11_fewest_18 (by decide) (fun h18 => ?_) (fun h18 => absurd h18 (by decide))
        exact r_keep [1, 0] rfl (ex1 (-1) hA I1 s1 L1 e1)
      | succ m ih =>
        intro a ha hA I1 s1 L1 e1
        have h1 := h.sN s1
        have next : ∀ v, (v = -1 → fw1 V n nn nt p m (a + 1) = fw1 V n nn nt p 70 0) → (¬ v = -1 → v = fw1 V n nn nt p 70 0) → ∀ I3 : fdI, sN I I3 nn → ∀ L3 : fdL, L3 = L → Rn fd_SM α mX11_fewest 63 [(2, .int (nI a)), (1, .int v), (0, .ref (α 0))] [] I3 L3 (fd_ip (fun v I' L' => v = .int R ∧ sN I I' nn ∧ L' = L)) := by
          intro v hv1 hv2 I3 s3 L3 e3
          by_cases hv : v = -1
          · subst hv
            refine r_iinc (v := _ + 1) (lv' := [(2, _), (1, _), (0, _)]) dX11_fewest_63 rfl rfl (Nat.le_of_ble_eq_true rfl) rfl ?_
            refine r_goto (tgt := 15) dX11_fewest_66 (by decide) ?_
            rw [nI_1]
            exact r_keep [2, 1, 0] rfl (ih (a + 1) (by omega) (hv1 rfl) I3 s3 L3 e3)
          · refine r_iinc (v := _ + 1) (lv' := [(2, _), (1, _), (0, _)]) dX11_fewest_63 rfl rfl (Nat.le_of_ble_eq_true rfl) rfl ?_
            refine r_goto (tgt := 15) dX11_fewest_66 (by decide) ?_
            refine r_iload_n dX11_fewest_15 rfl ?_
            refine r_bipush (v := 70) dX11_fewest_16 rfl ?_
            refine r_icmp_ge 69 dX11_fewest_18 (by decide) (fun h18 => ?_) (fun h18 => ?_)
            · exact r_keep [1, 0] rfl (ex1 v (hv2 hv) I3 s3 L3 e3)
            · refine r_iload_n dX11_fewest_21 rfl ?_
              refine r_iconst (v := (-1)) dX11_fewest_22 rfl ?_
              refine r_icmp_ne 69 dX11_fewest_23 (by decide) (fun h23 => ?_) (fun h23 => absurd h23 hv)
              exact r_keep [1, 0] rfl (ex1 v (hv2 hv) I3 s3 L3 e3)
        by_cases hb : adB V n nn a = true
        · have h2 := adW_ok h1 hb
          refine r_iload_n dX11_fewest_15 rfl ?_
          refine r_bipush (v := 70) dX11_fewest_16 rfl ?_
          refine r_icmp_ge 69 dX11_fewest_18 (by decide) (fun h18 => absurd h18 (fun q => absurd ((nI_leI (a := 70) (by omega) (by omega)).mp q) (by omega))) (fun h18 => ?_)
          refine r_iload_n dX11_fewest_21 rfl ?_
          refine r_iconst (v := (-1)) dX11_fewest_22 rfl ?_
          refine r_icmp_ne 69 dX11_fewest_23 (by decide) (fun h23 => absurd h23 (by decide)) (fun h23 => ?_)
          refine r_aload_n dX11_fewest_26 rfl ?_
          refine r_iload_n dX11_fewest_27 rfl ?_
          refine r_cVr (As := [_]) (c_adds V α _ _ a (by omega) h1) lk_11_190 rfl rfl (by decide) (by decide) rfl rfl (Nat.le_of_ble_eq_true rfl) dX11_fewest_28 ?_
          rw [if_pos hb]
          refine r_if_eq 63 dX11_fewest_31 (by decide) (fun h31 => absurd h31 (fd_bn.mpr hb)) (fun h31 => ?_)
          refine r_aload_n dX11_fewest_34 rfl ?_
          refine r_cVp (As := []) (c_areWell _ α _ _ h2 (rowOf I1 s1) hp) lk_11_187 rfl rfl (by decide) (by decide) rfl rfl (Nat.le_of_ble_eq_true rfl) dX11_fewest_35 (fun v35 I35 L35 q35 => ?_)
          obtain ⟨rfl, s35, e35⟩ := q35
          have n4 : I35 0 7 = nI (nn + 1) := s35.2 7 (by decide)
          have s5 := s1.back h.2.2.1 (sN.of s35)
          refine r_if_eq 51 dX11_fewest_38 (by decide) (fun h38 => ?_) (fun h38 => ?_)
          · have z := fd_b0.mp h38
            have ev1 : fw1 V n nn nt p m (a + 1) = fw1 V n nn nt p 70 0 := by
              rw [← hA]
              refine (if_neg (fun q => z ?_)).symm
              unfold fi1 at q
              simp only [Bool.and_eq_true] at q
              exact q.2
            refine r_iconst (v := (-1)) dX11_fewest_51 rfl ?_
            refine r_istore_n (lv' := [(1, _), (2, _), (0, _)]) dX11_fewest_52 (Nat.le_of_ble_eq_true rfl) rfl ?_
            refine r_aload_n dX11_fewest_53 rfl ?_
            refine r_dup dX11_fewest_54 rfl ?_
            refine r_getV rfl rfl fl_11_103 dX11_fewest_55 n4 ?_
            refine r_iconst (v := 1) dX11_fewest_58 rfl ?_
            refine r_isub dX11_fewest_59 ?_
            rw [nI_pred]
            refine r_putI rfl rfl fl_11_103 fw_11_7 dX11_fewest_60 ?_
            first
              | exact r_keep [2, 1, 0] rfl (next _ (fun q => absurd (q ▸ rfl : nI (100 * a + 99) = -1) (fun w => nI_pos (n := 100 * a + 99) (by omega) (by rw [w]; decide))) (fun _ => ev3) _ s5 _ (e35.trans e1))
              | exact r_keep [2, 1, 0] rfl (next (-1) (fun _ => ev1) (fun q => absurd rfl q) _ s5 _ (e35.trans e1))
          · have z := fd_bn.mp h38
            have ev3 : nI (100 * a + 99) = fw1 V n nn nt p 70 0 := by
              rw [← hA]
              refine (if_pos ?_).symm
              unfold fi1
              rw [hb, z]
              rfl
            refine r_bipush (v := 100) dX11_fewest_41 rfl ?_
            refine r_iload_n dX11_fewest_43 rfl ?_
            refine r_imul dX11_fewest_44 ?_
            rw [show (100 : Int32) * nI a = nI (100 * a) from pk_mul 100 a]
            refine r_bipush (v := 99) dX11_fewest_45 rfl ?_
            refine r_iadd dX11_fewest_47 ?_
            rw [show nI (100 * a) + 99 = nI (100 * a + 99) from nI_add (100 * a) 99]
            refine r_goto (tgt := 52) dX11_fewest_48 (by decide) ?_
            refine r_istore_n (lv' := [(1, _), (2, _), (0, _)]) dX11_fewest_52 (Nat.le_of_ble_eq_true rfl) rfl ?_
            refine r_aload_n dX11_fewest_53 rfl ?_
            refine r_dup dX11_fewest_54 rfl ?_
            refine r_getV rfl rfl fl_11_103 dX11_fewest_55 n4 ?_
            refine r_iconst (v := 1) dX11_fewest_58 rfl ?_
            refine r_isub dX11_fewest_59 ?_
            rw [nI_pred]
            refine r_putI rfl rfl fl_11_103 fw_11_7 dX11_fewest_60 ?_
            first
              | exact r_keep [2, 1, 0] rfl (next _ (fun q => absurd (q ▸ rfl : nI (100 * a + 99) = -1) (fun w => nI_pos (n := 100 * a + 99) (by omega) (by rw [w]; decide))) (fun _ => ev3) _ s5 _ (e35.trans e1))
              | exact r_keep [2, 1, 0] rfl (next (-1) (fun _ => ev1) (fun q => absurd rfl q) _ s5 _ (e35.trans e1))
        · refine r_iload_n dX11_fewest_15 rfl ?_
          refine r_bipush (v := 70) dX11_fewest_16 rfl ?_
          refine r_icmp_ge 69 dX11_fewest_18 (by decide) (fun h18 => absurd h18 (fun q => absurd ((nI_leI (a := 70) (by omega) (by omega)).mp q) (by omega))) (fun h18 => ?_)
          refine r_iload_n dX11_fewest_21 rfl ?_
          refine r_iconst (v := (-1)) dX11_fewest_22 rfl ?_
          refine r_icmp_ne 69 dX11_fewest_23 (by decide) (fun h23 => absurd h23 (by decide)) (fun h23 => ?_)
          refine r_aload_n dX11_fewest_26 rfl ?_
          refine r_iload_n dX11_fewest_27 rfl ?_
          refine r_cVr (As := [_]) (c_adds V α _ _ a (by omega) h1) lk_11_190 rfl rfl (by decide) (by decide) rfl rfl (Nat.le_of_ble_eq_true rfl) dX11_fewest_28 ?_
          rw [if_neg hb]
          refine r_if_eq 63 dX11_fewest_31 (by decide) (fun h31 => ?_) (fun h31 => absurd h31 (not_not_intro (fd_b0.mpr hb)))
          refine r_keep [2, 1, 0] rfl (next (-1) (fun _ => ?_) (fun q => absurd rfl q) _ s1 _ e1)
          rw [← hA]
          refine (if_neg (fun q => hb ?_)).symm
          unfold fi1 at q
          simp only [Bool.and_eq_true] at q
          exact q.1
    refine r_aload_n dX11_fewest_0 rfl ?_
    refine r_cVp (As := []) (c_areWell V α _ _ h hrow hp) lk_11_187 rfl rfl (by decide) (by decide) rfl rfl (Nat.le_of_ble_eq_true rfl) dX11_fewest_1 (fun v1 I1 L1 q1 => ?_)
    obtain ⟨rfl, s1, e1⟩ := q1
    refine r_if_eq 11 dX11_fewest_4 (by decide) (fun h4 => ?_) (fun h4 => absurd h4 (not_not_intro (fd_b0.mpr h0)))
    refine r_iconst (v := (-1)) dX11_fewest_11 rfl ?_
    refine r_istore_n (lv' := [(1, _), (0, _)]) dX11_fewest_12 (Nat.le_of_ble_eq_true rfl) rfl ?_
    refine r_iconst (v := 0) dX11_fewest_13 rfl ?_
    refine r_istore_n (lv' := [(2, _), (1, _), (0, _)]) dX11_fewest_14 (Nat.le_of_ble_eq_true rfl) rfl ?_
    exact r_keep [2, 1, 0] rfl (loop1 70 0 rfl rfl _ (sN.of s1) _ e1)
/-- notes' answer -/
def ntA (r w : Int32) : Int32 := if r = -1 then -1 else if w = 0 then (if r / 100 = 99 then 0 else 1) + (if r - r / 100 * 100 = 99 then 0 else 1) else if w = 1 then (if r / 100 = 99 then -1 else r / 100) else if r - r / 100 * 100 = 99 then -1 else r - r / 100 * 100
def qtP (c : Prop) (r bad : Int32) (I : fdI) (L : fdL) (nn : Nat) (v : Value) (I' : fdI) (L' : fdL) : Prop := L' = L ∧ (c → v = .int r ∧ sN I I' nn) ∧ (¬ c → v = .int bad ∧ I' = mBad I)
theorem c_X11_notes (V : pV) (α : Nat → Nat) (I : fdI) (L : fdL) (w : Int32) {n nn np nt : Nat} {p : Nat → Nat} (h : mOk V I n nn np nt) (hrow : ∀ k, k < n → I 6 k = nI (p k)) (hp : isP p n) : Con fd_SM α yX11_notes mX11_notes [.ref (α 0), .int w] I L (fd_ip (qtP (dayP w 3) (ntA (fwV V n nn nt p) w) (-10) I L nn)) := by
  refine Con.of (by decide) rfl (Nat.le_of_ble_eq_true rfl) ?_
  by_cases hok : dayP w 3
  · refine r_iload_n dX11_notes_0 rfl ?_
    refine r_i2l dX11_notes_1 rfl ?_
    refine r_lconst (v := 0) dX11_notes_2 rfl ?_
    refine r_ldc2 (v := (2 : Int64)) (fd_in 1200 (by decide +kernel) (by decide +kernel)) dX11_notes_3 ?_
    refine r_cSr (As := [_, _, _]) (c_in2 α _ _ _) lk_11_97 (by decide) (by decide) rfl rfl (Nat.le_of_ble_eq_true rfl) dX11_notes_6 ?_
    refine r_if_ne 19 dX11_notes_9 (by decide) (fun h9 => ?_) (fun h9 => absurd h9 (fd_bn.mpr hok))
    refine r_aload_n dX11_notes_19 rfl ?_
    refine r_cVp (As := []) (c_fewest V α _ _ h hrow hp) lk_11_195 rfl rfl (by decide) (by decide) rfl rfl (Nat.le_of_ble_eq_true rfl) dX11_notes_20 (fun v20 I20 L20 q20 => ?_)
    obtain ⟨rfl, s20, e20⟩ := q20
    generalize fwV V n nn nt p = R
    have fin : ∀ v, v = ntA R w → fd_ip (qtP (dayP w 3) (ntA R w) (-10) I L nn) (some (.int v)) I20 L20 := fun v hv => ⟨_, rfl, e20, fun _ => ⟨by rw [hv], s20⟩, fun q => absurd hok q⟩
    refine r_istore_n (lv' := [(2, _), (0, _), (1, _)]) dX11_notes_23 (Nat.le_of_ble_eq_true rfl) rfl ?_
    refine r_iload_n dX11_notes_24 rfl ?_
    refine r_iconst (v := (-1)) dX11_notes_25 rfl ?_
    refine r_icmp_ne 31 dX11_notes_26 (by decide) (fun h26 => ?_) (fun h26 => ?_)
    · refine r_iload_n dX11_notes_31 rfl ?_
      refine r_bipush (v := 100) dX11_notes_32 rfl ?_
      refine r_idiv dX11_notes_34 (by decide) ?_
      refine r_istore_n (lv' := [(3, _), (2, _), (0, _), (1, _)]) dX11_notes_35 (Nat.le_of_ble_eq_true rfl) rfl ?_
      refine r_iload_n dX11_notes_36 rfl ?_
      refine r_bipush (v := 100) dX11_notes_37 rfl ?_
      refine r_irem dX11_notes_39 (by decide) ?_
      refine r_istore (lv' := [(4, _), (3, _), (2, _), (0, _), (1, _)]) dX11_notes_40 (Nat.le_of_ble_eq_true rfl) rfl ?_
      refine r_iload_n dX11_notes_42 rfl ?_
      refine r_if_ne 73 dX11_notes_43 (by decide) (fun h43 => ?_) (fun h43 => ?_)
      · refine r_iload_n dX11_notes_73 rfl ?_
        refine r_iconst (v := 1) dX11_notes_74 rfl ?_
        refine r_icmp_ne 92 dX11_notes_75 (by decide) (fun h75 => ?_) (fun h75 => ?_)
        · refine r_iload dX11_notes_92 rfl ?_
          refine r_bipush (v := 99) dX11_notes_94 rfl ?_
          refine r_icmp_ne 103 dX11_notes_96 (by decide) (fun h96 => ?_) (fun h96 => ?_)
          · refine r_iload dX11_notes_103 rfl ?_
            refine r_iret rfl dX11_notes_105 ?_
            exact fin _ (by simp_all [ntA])
          · refine r_iconst (v := (-1)) dX11_notes_99 rfl ?_
            refine r_goto (tgt := 105) dX11_notes_100 (by decide) ?_
            refine r_iret rfl dX11_notes_105 ?_
            exact fin _ (by simp_all [ntA])
        · refine r_iload_n dX11_notes_78 rfl ?_
          refine r_bipush (v := 99) dX11_notes_79 rfl ?_
          refine r_icmp_ne 88 dX11_notes_81 (by decide) (fun h81 => ?_) (fun h81 => ?_)
          · refine r_iload_n dX11_notes_88 rfl ?_
            refine r_goto (tgt := 105) dX11_notes_89 (by decide) ?_
            refine r_iret rfl dX11_notes_105 ?_
            exact fin _ (by simp_all [ntA])
          · refine r_iconst (v := (-1)) dX11_notes_84 rfl ?_
            refine r_goto (tgt := 105) dX11_notes_85 (by decide) ?_
            refine r_iret rfl dX11_notes_105 ?_
            exact fin _ (by simp_all [ntA])
      · refine r_iload_n dX11_notes_46 rfl ?_
        refine r_bipush (v := 99) dX11_notes_47 rfl ?_
        refine r_icmp_ne 56 dX11_notes_49 (by decide) (fun h49 => ?_) (fun h49 => ?_)
        · refine r_iconst (v := 1) dX11_notes_56 rfl ?_
          refine r_iload dX11_notes_57 rfl ?_
          refine r_bipush (v := 99) dX11_notes_59 rfl ?_
          refine r_icmp_ne 68 dX11_notes_61 (by decide) (fun h61 => ?_) (fun h61 => ?_)
          · refine r_iconst (v := 1) dX11_notes_68 rfl ?_
            refine r_iadd dX11_notes_69 ?_
            refine r_goto (tgt := 105) dX11_notes_70 (by decide) ?_
            refine r_iret rfl dX11_notes_105 ?_
            exact fin _ (by simp_all [ntA])
          · refine r_iconst (v := 0) dX11_notes_64 rfl ?_
            refine r_goto (tgt := 69) dX11_notes_65 (by decide) ?_
            refine r_iadd dX11_notes_69 ?_
            refine r_goto (tgt := 105) dX11_notes_70 (by decide) ?_
            refine r_iret rfl dX11_notes_105 ?_
            exact fin _ (by simp_all [ntA])
        · refine r_iconst (v := 0) dX11_notes_52 rfl ?_
          refine r_goto (tgt := 57) dX11_notes_53 (by decide) ?_
          refine r_iload dX11_notes_57 rfl ?_
          refine r_bipush (v := 99) dX11_notes_59 rfl ?_
          refine r_icmp_ne 68 dX11_notes_61 (by decide) (fun h61 => ?_) (fun h61 => ?_)
          · refine r_iconst (v := 1) dX11_notes_68 rfl ?_
            refine r_iadd dX11_notes_69 ?_
            refine r_goto (tgt := 105) dX11_notes_70 (by decide) ?_
            refine r_iret rfl dX11_notes_105 ?_
            exact fin _ (by simp_all [ntA])
          · refine r_iconst (v := 0) dX11_notes_64 rfl ?_
            refine r_goto (tgt := 69) dX11_notes_65 (by decide) ?_
            refine r_iadd dX11_notes_69 ?_
            refine r_goto (tgt := 105) dX11_notes_70 (by decide) ?_
            refine r_iret rfl dX11_notes_105 ?_
            exact fin _ (by simp_all [ntA])
    · have z : ntA R w = -1 := if_pos h26
      refine r_iconst (v := (-1)) dX11_notes_29 rfl ?_
      refine r_iret rfl dX11_notes_30 ?_
      exact fin _ z.symm
  · refine r_iload_n dX11_notes_0 rfl ?_
    refine r_i2l dX11_notes_1 rfl ?_
    refine r_lconst (v := 0) dX11_notes_2 rfl ?_
    refine r_ldc2 (v := (2 : Int64)) (fd_in 1200 (by decide +kernel) (by decide +kernel)) dX11_notes_3 ?_
    refine r_cSr (As := [_, _, _]) (c_in2 α _ _ _) lk_11_97 (by decide) (by decide) rfl rfl (Nat.le_of_ble_eq_true rfl) dX11_notes_6 ?_
    refine r_if_ne 19 dX11_notes_9 (by decide) (fun h9 => absurd h9 (not_not_intro (fd_b0.mpr hok))) (fun h9 => ?_)
    refine r_aload_n dX11_notes_12 rfl ?_
    refine r_bipush (v := (-10)) dX11_notes_13 rfl ?_
    refine r_cVr (As := [_]) (c_X11_bad α _ _ _) lk_11_120 rfl rfl (by decide) (by decide) rfl rfl (Nat.le_of_ble_eq_true rfl) dX11_notes_15 ?_
    refine r_iret rfl dX11_notes_18 ?_
    exact ⟨_, rfl, rfl, fun q => absurd q hok, fun _ => ⟨rfl, rfl⟩⟩
