/-! the class: tokens -/
def txX (T : Nat → Int32) (b : Nat) (I : fdI) : Prop := I 54 0 = nI b ∧ ∀ i, i < b → I 56 i = T i
theorem txX.same {T : Nat → Int32} {b : Nat} {I J : fdI} (h : txX T b I) (h0 : J 54 0 = I 54 0) (h1 : J 56 = I 56) : txX T b J := ⟨h0.trans h.1, fun i hi => by rw [h1]; exact h.2 i hi⟩
theorem c_X9_isLetter (T : Nat → Int32) (α : Nat → Nat) (I : fdI) (L : fdL) {b : Nat} (i : Nat) (hb : b ≤ 150) (h : txX T b I) (hi : i < b) : Con fd_SX α yX9_isLetter mX9_isLetter [.ref (α 54), .int (nI i)] I L (fd_is (some (.int (fd_b (isL T i = true)))) I L) := by
  refine Con.of (by decide) rfl (Nat.le_of_ble_eq_true rfl) ?_
  have e := h.2 i hi
  by_cases h1 : T i < 97
  · have ev : (0 : Int32) = fd_b (isL T i = true) := (fd_b_f (fun q => by
      have := (of_decide_eq_true q).1
      rw [Int32.lt_iff_toInt_lt, show (97 : Int32).toInt = 97 from rfl] at h1
      omega)).symm
    refine r_aload_n dX9_isLetter_0 rfl ?_
    refine r_getR rfl rfl fl_9_22 dX9_isLetter_1 ?_
    refine r_iload_n dX9_isLetter_4 rfl ?_
    refine r_baldN rfl dX9_isLetter_5 (by omega) (by omega) e ?_
    refine r_bipush (v := 97) dX9_isLetter_6 rfl ?_
    refine r_icmp_lt 26 dX9_isLetter_8 (by decide) (fun h8 => ?_) (fun h8 => absurd h8 (not_not_intro h1))
    refine r_iconst (v := 0) dX9_isLetter_26 rfl ?_
    refine r_zret rfl (by decide) dX9_isLetter_27 ?_
    exact fd_isi ev rfl rfl
  · by_cases h2 : 122 < T i
    · have ev : (0 : Int32) = fd_b (isL T i = true) := (fd_b_f (fun q => by
        have := (of_decide_eq_true q).2
        rw [Int32.lt_iff_toInt_lt, show (122 : Int32).toInt = 122 from rfl] at h2
        omega)).symm
      refine r_aload_n dX9_isLetter_0 rfl ?_
      refine r_getR rfl rfl fl_9_22 dX9_isLetter_1 ?_
      refine r_iload_n dX9_isLetter_4 rfl ?_
      refine r_baldN rfl dX9_isLetter_5 (by omega) (by omega) e ?_
      refine r_bipush (v := 97) dX9_isLetter_6 rfl ?_
      refine r_icmp_lt 26 dX9_isLetter_8 (by decide) (fun h8 => absurd h8 h1) (fun h8 => ?_)
      refine r_aload_n dX9_isLetter_11 rfl ?_
      refine r_getR rfl rfl fl_9_22 dX9_isLetter_12 ?_
      refine r_iload_n dX9_isLetter_15 rfl ?_
      refine r_baldN rfl dX9_isLetter_16 (by omega) (by omega) e ?_
      refine r_bipush (v := 122) dX9_isLetter_17 rfl ?_
      refine r_icmp_gt 26 dX9_isLetter_19 (by decide) (fun h19 => ?_) (fun h19 => absurd h19 (not_not_intro h2))
      refine r_iconst (v := 0) dX9_isLetter_26 rfl ?_
      refine r_zret rfl (by decide) dX9_isLetter_27 ?_
      exact fd_isi ev rfl rfl
    · have ev : (1 : Int32) = fd_b (isL T i = true) := (fd_b_t (decide_eq_true (by
        rw [Int32.lt_iff_toInt_lt, show (97 : Int32).toInt = 97 from rfl] at h1
        rw [Int32.lt_iff_toInt_lt, show (122 : Int32).toInt = 122 from rfl] at h2
        omega))).symm
      refine r_aload_n dX9_isLetter_0 rfl ?_
      refine r_getR rfl rfl fl_9_22 dX9_isLetter_1 ?_
      refine r_iload_n dX9_isLetter_4 rfl ?_
      refine r_baldN rfl dX9_isLetter_5 (by omega) (by omega) e ?_
      refine r_bipush (v := 97) dX9_isLetter_6 rfl ?_
      refine r_icmp_lt 26 dX9_isLetter_8 (by decide) (fun h8 => absurd h8 h1) (fun h8 => ?_)
      refine r_aload_n dX9_isLetter_11 rfl ?_
      refine r_getR rfl rfl fl_9_22 dX9_isLetter_12 ?_
      refine r_iload_n dX9_isLetter_15 rfl ?_
      refine r_baldN rfl dX9_isLetter_16 (by omega) (by omega) e ?_
      refine r_bipush (v := 122) dX9_isLetter_17 rfl ?_
      refine r_icmp_gt 26 dX9_isLetter_19 (by decide) (fun h19 => absurd h19 h2) (fun h19 => ?_)
      refine r_iconst (v := 1) dX9_isLetter_22 rfl ?_
      refine r_goto (tgt := 27) dX9_isLetter_23 (by decide) ?_
      refine r_zret rfl (by decide) dX9_isLetter_27 ?_
      exact fd_isi ev rfl rfl
theorem dg_lt {T : Nat → Int32} {b q : Nat} (h : q < b) : dg T b q = decide (48 ≤ (T q).toInt ∧ (T q).toInt ≤ 57) := by
  unfold dg
  rw [decide_eq_true h, Bool.true_and]
theorem c_X9_isFigure (T : Nat → Int32) (α : Nat → Nat) (I : fdI) (L : fdL) {b : Nat} (i : Nat) (hb : b ≤ 150) (h : txX T b I) (hi : i < b) : Con fd_SX α yX9_isFigure mX9_isFigure [.ref (α 54), .int (nI i)] I L (fd_is (some (.int (fd_b (dg T b i = true)))) I L) := by
  refine Con.of (by decide) rfl (Nat.le_of_ble_eq_true rfl) ?_
  have e := h.2 i hi
  rw [dg_lt hi]
  by_cases h1 : T i < 48
  · have ev : (0 : Int32) = fd_b (decide (48 ≤ (T i).toInt ∧ (T i).toInt ≤ 57) = true) := (fd_b_f (fun q => by
      have := (of_decide_eq_true q).1
      rw [Int32.lt_iff_toInt_lt, show (48 : Int32).toInt = 48 from rfl] at h1
      omega)).symm
    refine r_aload_n dX9_isFigure_0 rfl ?_
    refine r_getR rfl rfl fl_9_22 dX9_isFigure_1 ?_
    refine r_iload_n dX9_isFigure_4 rfl ?_
    refine r_baldN rfl dX9_isFigure_5 (by omega) (by omega) e ?_
    refine r_bipush (v := 48) dX9_isFigure_6 rfl ?_
    refine r_icmp_lt 26 dX9_isFigure_8 (by decide) (fun h8 => ?_) (fun h8 => absurd h8 (not_not_intro h1))
    refine r_iconst (v := 0) dX9_isFigure_26 rfl ?_
    refine r_zret rfl (by decide) dX9_isFigure_27 ?_
    exact fd_isi ev rfl rfl
  · by_cases h2 : 57 < T i
    · have ev : (0 : Int32) = fd_b (decide (48 ≤ (T i).toInt ∧ (T i).toInt ≤ 57) = true) := (fd_b_f (fun q => by
        have := (of_decide_eq_true q).2
        rw [Int32.lt_iff_toInt_lt, show (57 : Int32).toInt = 57 from rfl] at h2
        omega)).symm
      refine r_aload_n dX9_isFigure_0 rfl ?_
      refine r_getR rfl rfl fl_9_22 dX9_isFigure_1 ?_
      refine r_iload_n dX9_isFigure_4 rfl ?_
      refine r_baldN rfl dX9_isFigure_5 (by omega) (by omega) e ?_
      refine r_bipush (v := 48) dX9_isFigure_6 rfl ?_
      refine r_icmp_lt 26 dX9_isFigure_8 (by decide) (fun h8 => absurd h8 h1) (fun h8 => ?_)
      refine r_aload_n dX9_isFigure_11 rfl ?_
      refine r_getR rfl rfl fl_9_22 dX9_isFigure_12 ?_
      refine r_iload_n dX9_isFigure_15 rfl ?_
      refine r_baldN rfl dX9_isFigure_16 (by omega) (by omega) e ?_
      refine r_bipush (v := 57) dX9_isFigure_17 rfl ?_
      refine r_icmp_gt 26 dX9_isFigure_19 (by decide) (fun h19 => ?_) (fun h19 => absurd h19 (not_not_intro h2))
      refine r_iconst (v := 0) dX9_isFigure_26 rfl ?_
      refine r_zret rfl (by decide) dX9_isFigure_27 ?_
      exact fd_isi ev rfl rfl
    · have ev : (1 : Int32) = fd_b (decide (48 ≤ (T i).toInt ∧ (T i).toInt ≤ 57) = true) := (fd_b_t (decide_eq_true (by
        rw [Int32.lt_iff_toInt_lt, show (48 : Int32).toInt = 48 from rfl] at h1
        rw [Int32.lt_iff_toInt_lt, show (57 : Int32).toInt = 57 from rfl] at h2
        omega))).symm
      refine r_aload_n dX9_isFigure_0 rfl ?_
      refine r_getR rfl rfl fl_9_22 dX9_isFigure_1 ?_
      refine r_iload_n dX9_isFigure_4 rfl ?_
      refine r_baldN rfl dX9_isFigure_5 (by omega) (by omega) e ?_
      refine r_bipush (v := 48) dX9_isFigure_6 rfl ?_
      refine r_icmp_lt 26 dX9_isFigure_8 (by decide) (fun h8 => absurd h8 h1) (fun h8 => ?_)
      refine r_aload_n dX9_isFigure_11 rfl ?_
      refine r_getR rfl rfl fl_9_22 dX9_isFigure_12 ?_
      refine r_iload_n dX9_isFigure_15 rfl ?_
      refine r_baldN rfl dX9_isFigure_16 (by omega) (by omega) e ?_
      refine r_bipush (v := 57) dX9_isFigure_17 rfl ?_
      refine r_icmp_gt 26 dX9_isFigure_19 (by decide) (fun h19 => absurd h19 h2) (fun h19 => ?_)
      refine r_iconst (v := 1) dX9_isFigure_22 rfl ?_
      refine r_goto (tgt := 27) dX9_isFigure_23 (by decide) ?_
      refine r_zret rfl (by decide) dX9_isFigure_27 ?_
      exact fd_isi ev rfl rfl
theorem c_X9_spells (T : Nat → Int32) (α : Nat → Nat) (I : fdI) (L : fdL) {b s m : Nat} (w : Nat) (hi : w < 7) (hb : b ≤ 150) (h : txX T b I) (hm : s + m ≤ b) (hn : I 54 4 = nI (s + m)) (hst : I 54 5 = nI s) : Con fd_SX α yX9_spells mX9_spells [.ref (α 54), .ref (α (1001 + w))] I L (fd_is (some (.int (fd_b (mtB T s m w = true)))) I L) := by
  refine Con.of (by decide) rfl (Nat.le_of_ble_eq_true rfl) ?_
  have hl := wdL_ok w hi
  have em : nI (s + m) - nI s = nI m := by rw [pk_sub (by omega), Nat.add_sub_cancel_left]
  by_cases hml : m = fd_len.getD w 0
  · have loop : ∀ k, k ≤ m → anB (fun i => decide (T (s + i) = wdC w i)) k = true → Rn fd_SX α mX9_spells 20 [(2, .int (nI k)), (0, .ref (α 54)), (1, .ref (α (1001 + w)))] [] I L (fd_is (some (.int (fd_b (mtB T s m w = true)))) I L) := by
      refine fd_down (fun k hk ih => ?_)
      intro hA
      by_cases hx : k = m
      · have ht : mtB T s m w = true := by
          unfold mtB
          rw [decide_eq_true hml, ← hml, ← hx, hA]
          rfl
        refine r_iload_n dX9_spells_20 rfl ?_
        refine r_aload_n dX9_spells_21 rfl ?_
        refine r_cTr (As := []) (c_strLength α _ _ w hi) hi lk_9_66 rfl (by decide) (by decide) rfl rfl (Nat.le_of_ble_eq_true rfl) dX9_spells_22 ?_
        refine r_icmp_ge 55 dX9_spells_25 (by decide) (fun h25 => ?_) (fun h25 => absurd h25 (not_not_intro (by rw [hx, hml]; exact Int32.le_refl _)))
        refine r_iconst (v := 1) dX9_spells_55 rfl ?_
        refine r_zret rfl (by decide) dX9_spells_56 ?_
        exact fd_isi (fd_b_t ht).symm rfl rfl
      · have hk1 : k < m := by omega
        have ec := h.2 (s + k) (by omega)
        by_cases hc : T (s + k) = wdC w k
        · have hA2 : anB (fun i => decide (T (s + i) = wdC w i)) (k + 1) = true := by
            show (_ && decide (T (s + k) = wdC w k)) = true
            rw [hA, decide_eq_true hc]
            rfl
          refine r_iload_n dX9_spells_20 rfl ?_
          refine r_aload_n dX9_spells_21 rfl ?_
          refine r_cTr (As := []) (c_strLength α _ _ w hi) hi lk_9_66 rfl (by decide) (by decide) rfl rfl (Nat.le_of_ble_eq_true rfl) dX9_spells_22 ?_
          refine r_icmp_ge 55 dX9_spells_25 (by decide) (fun h25 => absurd h25 (fun q => absurd ((nI_leI (by omega) (by omega)).mp q) (by omega))) (fun h25 => ?_)
          refine r_aload_n dX9_spells_28 rfl ?_
          refine r_getR rfl rfl fl_9_22 dX9_spells_29 ?_
          refine r_aload_n dX9_spells_32 rfl ?_
          refine r_getV rfl rfl fl_9_39 dX9_spells_33 hst ?_
          refine r_iload_n dX9_spells_36 rfl ?_
          refine r_iadd dX9_spells_37 ?_
          rw [nI_add]
          refine r_baldN rfl dX9_spells_38 (by omega) (by omega) ec ?_
          refine r_aload_n dX9_spells_39 rfl ?_
          refine r_iload_n dX9_spells_40 rfl ?_
          refine r_cTr (As := [_]) (c_strCharAt α _ _ w hi k (by omega)) hi lk_9_71 rfl (by decide) (by decide) rfl rfl (Nat.le_of_ble_eq_true rfl) dX9_spells_41 ?_
          refine r_icmp_eq 49 dX9_spells_44 (by decide) (fun h44 => ?_) (fun h44 => absurd h44 (not_not_intro hc))
          refine r_iinc (v := _ + 1) (lv' := [(2, _), (0, _), (1, _)]) dX9_spells_49 rfl rfl (Nat.le_of_ble_eq_true rfl) rfl ?_
          refine r_goto (tgt := 20) dX9_spells_52 (by decide) ?_
          rw [nI_1]
          exact r_keep [2, 0, 1] rfl (ih hk1 hA2)
        · have hF : ¬ mtB T s m w = true := by
            intro z
            unfold mtB at z
            rw [Bool.and_eq_true, anB_iff] at z
            exact hc (of_decide_eq_true (z.2 k (by omega)))
          refine r_iload_n dX9_spells_20 rfl ?_
          refine r_aload_n dX9_spells_21 rfl ?_
          refine r_cTr (As := []) (c_strLength α _ _ w hi) hi lk_9_66 rfl (by decide) (by decide) rfl rfl (Nat.le_of_ble_eq_true rfl) dX9_spells_22 ?_
          refine r_icmp_ge 55 dX9_spells_25 (by decide) (fun h25 => absurd h25 (fun q => absurd ((nI_leI (by omega) (by omega)).mp q) (by omega))) (fun h25 => ?_)
          refine r_aload_n dX9_spells_28 rfl ?_
          refine r_getR rfl rfl fl_9_22 dX9_spells_29 ?_
          refine r_aload_n dX9_spells_32 rfl ?_
          refine r_getV rfl rfl fl_9_39 dX9_spells_33 hst ?_
          refine r_iload_n dX9_spells_36 rfl ?_
          refine r_iadd dX9_spells_37 ?_
          rw [nI_add]
          refine r_baldN rfl dX9_spells_38 (by omega) (by omega) ec ?_
          refine r_aload_n dX9_spells_39 rfl ?_
          refine r_iload_n dX9_spells_40 rfl ?_
          refine r_cTr (As := [_]) (c_strCharAt α _ _ w hi k (by omega)) hi lk_9_71 rfl (by decide) (by decide) rfl rfl (Nat.le_of_ble_eq_true rfl) dX9_spells_41 ?_
          refine r_icmp_eq 49 dX9_spells_44 (by decide) (fun h44 => absurd h44 hc) (fun h44 => ?_)
          refine r_iconst (v := 0) dX9_spells_47 rfl ?_
          refine r_zret rfl (by decide) dX9_spells_48 ?_
          exact fd_isi (fd_b_f hF).symm rfl rfl
    refine r_aload_n dX9_spells_0 rfl ?_
    refine r_getV rfl rfl fl_9_26 dX9_spells_1 hn ?_
    refine r_aload_n dX9_spells_4 rfl ?_
    refine r_getV rfl rfl fl_9_39 dX9_spells_5 hst ?_
    refine r_isub dX9_spells_8 ?_
    rw [em]
    refine r_aload_n dX9_spells_9 rfl ?_
    refine r_cTr (As := []) (c_strLength α _ _ w hi) hi lk_9_66 rfl (by decide) (by decide) rfl rfl (Nat.le_of_ble_eq_true rfl) dX9_spells_10 ?_
    refine r_icmp_eq 18 dX9_spells_13 (by decide) (fun h13 => ?_) (fun h13 => absurd h13 (not_not_intro (by rw [hml])))
    refine r_iconst (v := 0) dX9_spells_18 rfl ?_
    refine r_istore_n (lv' := [(2, _), (0, _), (1, _)]) dX9_spells_19 (Nat.le_of_ble_eq_true rfl) rfl ?_
    exact r_keep [2, 0, 1] rfl (loop 0 (by omega) rfl)
  · have hF : ¬ mtB T s m w = true := by
      intro z
      unfold mtB at z
      rw [Bool.and_eq_true] at z
      exact hml (of_decide_eq_true z.1)
    refine r_aload_n dX9_spells_0 rfl ?_
    refine r_getV rfl rfl fl_9_26 dX9_spells_1 hn ?_
    refine r_aload_n dX9_spells_4 rfl ?_
    refine r_getV rfl rfl fl_9_39 dX9_spells_5 hst ?_
    refine r_isub dX9_spells_8 ?_
    rw [em]
    refine r_aload_n dX9_spells_9 rfl ?_
    refine r_cTr (As := []) (c_strLength α _ _ w hi) hi lk_9_66 rfl (by decide) (by decide) rfl rfl (Nat.le_of_ble_eq_true rfl) dX9_spells_10 ?_
    refine r_icmp_eq 18 dX9_spells_13 (by decide) (fun h13 => absurd h13 (fun q => hml ((nI_eq (by omega) (by omega)).mp q))) (fun h13 => ?_)
    refine r_iconst (v := 0) dX9_spells_16 rfl ?_
    refine r_zret rfl (by decide) dX9_spells_17 ?_
    exact fd_isi (fd_b_f hF).symm rfl rfl
theorem le_isL {T : Nat → Int32} : ∀ m p x, p ≤ x → x < ltF T m p → isL T x = true := by
  intro m
  induction m with
  | zero => intro p x h1 h2; have h2 : x < p := h2; omega
  | succ m ih =>
    intro p x h1 h2
    unfold ltF at h2
    by_cases q : isL T p = true
    · rw [if_pos q] at h2
      by_cases e : x = p
      · rw [e]; exact q
      · exact ih (p + 1) x (by omega) h2
    · rw [if_neg q] at h2
      omega
theorem le_at {T : Nat → Int32} {b s : Nat} (x : Nat) (h1 : s ≤ x) (h2 : x < le T b s) : isL T x = true := le_isL _ _ x h1 h2
theorem le_no {T : Nat → Int32} {b s : Nat} (h : isL T s = false) : le T b s = s := by
  unfold le
  cases b - s with
  | zero => rfl
  | succ m => exact if_neg (by rw [h]; decide)
theorem le_b {T : Nat → Int32} {b : Nat} : le T b b = b := by unfold le; rw [Nat.sub_self]; rfl
/-- slots of the text's object that a token tells: 4 next, 5 start, 6 token, 7 figure -/
def tkF (I I' : fdI) : Prop := (∀ a, a ≠ 54 → I' a = I a) ∧ ∀ j, j < 4 → I' 54 j = I 54 j
theorem tkF.rfl' {I : fdI} : tkF I I := ⟨fun _ _ => rfl, fun _ _ => rfl⟩
theorem tkF.trans {I J K : fdI} (h : tkF I J) (h2 : tkF J K) : tkF I K := ⟨fun a ha => (h2.1 a ha).trans (h.1 a ha), fun j hj => (h2.2 j hj).trans (h.2 j hj)⟩
theorem tkF.up {I J : fdI} {j : Nat} {v : Int32} (h : tkF I J) (hj : 4 ≤ j) : tkF I (fd_up J 54 j v) := ⟨fun a ha => (fd_up_cell ha).trans (h.1 a ha), fun i hi => (fd_up_pl (by omega)).trans (h.2 i hi)⟩
theorem txX.tk {T : Nat → Int32} {b : Nat} {I J : fdI} (h : txX T b I) (f : tkF I J) : txX T b J := h.same (f.2 0 (by decide)) (f.1 56 (by decide))
theorem c_X9_passLetters (T : Nat → Int32) (α : Nat → Nat) (I : fdI) (L : fdL) {b s : Nat} (hb : b ≤ 150) (h : txX T b I) (hs : s ≤ b) (hn : I 54 4 = nI s) (hst : I 54 5 = nI s) : Con fd_SX α yX9_passLetters mX9_passLetters [.ref (α 54)] I L (fd_vp (fun I' L' => L' = L ∧ tkF I I' ∧ I' 54 5 = nI s ∧ I' 54 4 = nI (le T b s) ∧ I' 54 6 = nI (wdT T s (le T b s - s) 7))) := by
  refine Con.of (by decide) rfl (Nat.le_of_ble_eq_true rfl) ?_
  have hle := le_le (T := T) hs
  have words : ∀ k, k ≤ 7 → ∀ I1 : fdI, tkF I I1 → I1 54 5 = nI s → I1 54 4 = nI (le T b s) → I1 54 6 = nI (wdT T s (le T b s - s) k) → Rn fd_SX α mX9_passLetters 43 [(1, .int (nI k)), (0, .ref (α 54))] [] I1 L (fd_vp (fun I' L' => L' = L ∧ tkF I I' ∧ I' 54 5 = nI s ∧ I' 54 4 = nI (le T b s) ∧ I' 54 6 = nI (wdT T s (le T b s - s) 7))) := by
    refine fd_down (fun k hk ih => ?_)
    intro I1 f1 g5 g4 g6
    by_cases hx : k = 7
    · subst hx
      refine r_iload_n dX9_passLetters_43 rfl ?_
      refine r_bipush (v := 7) dX9_passLetters_44 rfl ?_
      refine r_icmp_ge 71 dX9_passLetters_46 (by decide) (fun h46 => ?_) (fun h46 => absurd h46 (not_not_intro (Int32.le_refl _)))
      refine r_vret rfl dX9_passLetters_71 ?_
      exact ⟨rfl, rfl, f1, g5, g4, g6⟩
    · have hk7 : k < 7 := by omega
      by_cases hm : mtB T s (le T b s - s) k = true
      · have ev : wdT T s (le T b s - s) (k + 1) = k := if_pos hm
        refine r_iload_n dX9_passLetters_43 rfl ?_
        refine r_bipush (v := 7) dX9_passLetters_44 rfl ?_
        refine r_icmp_ge 71 dX9_passLetters_46 (by decide) (fun h46 => absurd h46 (fun q => absurd ((nI_leI (a := 7) (by omega) (by omega)).mp q) (by omega))) (fun h46 => ?_)
        refine r_aload_n dX9_passLetters_49 rfl ?_
        refine r_iload_n dX9_passLetters_50 rfl ?_
        refine r_cSr (As := [_]) (c_X9_word α _ _ k hk7) lk_9_58 (by decide) (by decide) rfl rfl (Nat.le_of_ble_eq_true rfl) dX9_passLetters_51 ?_
        refine r_cVr (As := [_]) (c_X9_spells (m := le T b s - s) T α _ _ k hk7 hb (h.tk f1) (by omega) (by rw [show s + (le T b s - s) = le T b s by omega]; exact g4) g5) lk_9_62 rfl rfl (by decide) (by decide) rfl rfl (Nat.le_of_ble_eq_true rfl) dX9_passLetters_54 ?_
        refine r_if_eq 65 dX9_passLetters_57 (by decide) (fun h57 => absurd h57 (fd_bn.mpr hm)) (fun h57 => ?_)
        refine r_aload_n dX9_passLetters_60 rfl ?_
        refine r_iload_n dX9_passLetters_61 rfl ?_
        refine r_putI rfl rfl fl_9_32 fw_9_6 dX9_passLetters_62 ?_
        refine r_iinc (v := _ + 1) (lv' := [(1, _), (0, _)]) dX9_passLetters_65 rfl rfl (Nat.le_of_ble_eq_true rfl) rfl ?_
        refine r_goto (tgt := 43) dX9_passLetters_68 (by decide) ?_
        rw [nI_1]
        exact r_keep [1, 0] rfl (ih hk7 _ (f1.up (by decide)) ((fd_up_pl (by decide)).trans g5) ((fd_up_pl (by decide)).trans g4) (by rw [fd_up_same, ev]))
      · have ev : wdT T s (le T b s - s) (k + 1) = wdT T s (le T b s - s) k := if_neg hm
        refine r_iload_n dX9_passLetters_43 rfl ?_
        refine r_bipush (v := 7) dX9_passLetters_44 rfl ?_
        refine r_icmp_ge 71 dX9_passLetters_46 (by decide) (fun h46 => absurd h46 (fun q => absurd ((nI_leI (a := 7) (by omega) (by omega)).mp q) (by omega))) (fun h46 => ?_)
        refine r_aload_n dX9_passLetters_49 rfl ?_
        refine r_iload_n dX9_passLetters_50 rfl ?_
        refine r_cSr (As := [_]) (c_X9_word α _ _ k hk7) lk_9_58 (by decide) (by decide) rfl rfl (Nat.le_of_ble_eq_true rfl) dX9_passLetters_51 ?_
        refine r_cVr (As := [_]) (c_X9_spells (m := le T b s - s) T α _ _ k hk7 hb (h.tk f1) (by omega) (by rw [show s + (le T b s - s) = le T b s by omega]; exact g4) g5) lk_9_62 rfl rfl (by decide) (by decide) rfl rfl (Nat.le_of_ble_eq_true rfl) dX9_passLetters_54 ?_
        refine r_if_eq 65 dX9_passLetters_57 (by decide) (fun h57 => ?_) (fun h57 => absurd h57 (not_not_intro (fd_b0.mpr hm)))
        refine r_iinc (v := _ + 1) (lv' := [(1, _), (0, _)]) dX9_passLetters_65 rfl rfl (Nat.le_of_ble_eq_true rfl) rfl ?_
        refine r_goto (tgt := 43) dX9_passLetters_68 (by decide) ?_
        rw [nI_1]
        exact r_keep [1, 0] rfl (ih hk7 _ f1 g5 g4 (by rw [ev]; exact g6))
  have fin : ∀ I1 : fdI, tkF I I1 → I1 54 5 = nI s → I1 54 4 = nI (le T b s) → Rn fd_SX α mX9_passLetters 35 [(0, .ref (α 54))] [] I1 L (fd_vp (fun I' L' => L' = L ∧ tkF I I' ∧ I' 54 5 = nI s ∧ I' 54 4 = nI (le T b s) ∧ I' 54 6 = nI (wdT T s (le T b s - s) 7))) := by
    intro I1 f1 g5 g4
    refine r_aload_n dX9_passLetters_35 rfl ?_
    refine r_bipush (v := 10) dX9_passLetters_36 rfl ?_
    refine r_putI rfl rfl fl_9_32 fw_9_6 dX9_passLetters_38 ?_
    refine r_iconst (v := 0) dX9_passLetters_41 rfl ?_
    refine r_istore_n (lv' := [(1, _), (0, _)]) dX9_passLetters_42 (Nat.le_of_ble_eq_true rfl) rfl ?_
    exact r_keep [1, 0] rfl (words 0 (by omega) _ (f1.up (by decide)) ((fd_up_pl (by decide)).trans g5) ((fd_up_pl (by decide)).trans g4) fd_up_same)
  have loop : ∀ m q, q + m = b → s ≤ q → ltF T m q = le T b s → ∀ I1 : fdI, tkF I I1 → I1 54 5 = nI s → I1 54 4 = nI q → Rn fd_SX α mX9_passLetters 0 [(0, .ref (α 54))] [] I1 L (fd_vp (fun I' L' => L' = L ∧ tkF I I' ∧ I' 54 5 = nI s ∧ I' 54 4 = nI (le T b s) ∧ I' 54 6 = nI (wdT T s (le T b s - s) 7))) := by
    intro m
    induction m with
    | zero =>
      intro q hq hsq he I1 f1 g5 g4
      have he : q = le T b s := he
      have hbq : q = b := by omega
      refine r_aload_n dX9_passLetters_0 rfl ?_
      refine r_getV rfl rfl fl_9_26 dX9_passLetters_1 g4 ?_
      refine r_aload_n dX9_passLetters_4 rfl ?_
      refine r_getV rfl rfl fl_9_9 dX9_passLetters_5 (h.tk f1).1 ?_
      refine r_icmp_ge 35 dX9_passLetters_8 (by decide) (fun h8 => ?_) (fun h8 => absurd h8 (not_not_intro (by rw [hbq]; exact Int32.le_refl _)))
      exact r_keep [0] rfl (fin I1 f1 g5 (by rw [← he]; exact g4))
    | succ m ih =>
      intro q hq hsq he I1 f1 g5 g4
      by_cases hl : isL T q = true
      · have he2 : ltF T m (q + 1) = le T b s := by rw [← he]; exact (if_pos hl).symm
        refine r_aload_n dX9_passLetters_0 rfl ?_
        refine r_getV rfl rfl fl_9_26 dX9_passLetters_1 g4 ?_
        refine r_aload_n dX9_passLetters_4 rfl ?_
        refine r_getV rfl rfl fl_9_9 dX9_passLetters_5 (h.tk f1).1 ?_
        refine r_icmp_ge 35 dX9_passLetters_8 (by decide) (fun h8 => absurd h8 (fun z => absurd ((nI_leI (by omega) (by omega)).mp z) (by omega))) (fun h8 => ?_)
        refine r_aload_n dX9_passLetters_11 rfl ?_
        refine r_aload_n dX9_passLetters_12 rfl ?_
        refine r_getV rfl rfl fl_9_26 dX9_passLetters_13 g4 ?_
        refine r_cVr (As := [_]) (c_X9_isLetter T α _ _ q hb (h.tk f1) (by omega)) lk_9_45 rfl rfl (by decide) (by decide) rfl rfl (Nat.le_of_ble_eq_true rfl) dX9_passLetters_16 ?_
        refine r_if_eq 35 dX9_passLetters_19 (by decide) (fun h19 => absurd h19 (fd_bn.mpr hl)) (fun h19 => ?_)
        refine r_aload_n dX9_passLetters_22 rfl ?_
        refine r_dup dX9_passLetters_23 rfl ?_
        refine r_getV rfl rfl fl_9_26 dX9_passLetters_24 g4 ?_
        refine r_iconst (v := 1) dX9_passLetters_27 rfl ?_
        refine r_iadd dX9_passLetters_28 ?_
        rw [nI_1]
        refine r_putI rfl rfl fl_9_26 fw_9_4 dX9_passLetters_29 ?_
        refine r_goto (tgt := 0) dX9_passLetters_32 (by decide) ?_
        exact r_keep [0] rfl (ih (q + 1) (by omega) (by omega) he2 _ (f1.up (by decide)) ((fd_up_pl (by decide)).trans g5) fd_up_same)
      · have he2 : q = le T b s := by rw [← he]; exact (if_neg hl).symm
        refine r_aload_n dX9_passLetters_0 rfl ?_
        refine r_getV rfl rfl fl_9_26 dX9_passLetters_1 g4 ?_
        refine r_aload_n dX9_passLetters_4 rfl ?_
        refine r_getV rfl rfl fl_9_9 dX9_passLetters_5 (h.tk f1).1 ?_
        refine r_icmp_ge 35 dX9_passLetters_8 (by decide) (fun h8 => absurd h8 (fun z => absurd ((nI_leI (by omega) (by omega)).mp z) (by omega))) (fun h8 => ?_)
        refine r_aload_n dX9_passLetters_11 rfl ?_
        refine r_aload_n dX9_passLetters_12 rfl ?_
        refine r_getV rfl rfl fl_9_26 dX9_passLetters_13 g4 ?_
        refine r_cVr (As := [_]) (c_X9_isLetter T α _ _ q hb (h.tk f1) (by omega)) lk_9_45 rfl rfl (by decide) (by decide) rfl rfl (Nat.le_of_ble_eq_true rfl) dX9_passLetters_16 ?_
        refine r_if_eq 35 dX9_passLetters_19 (by decide) (fun h19 => ?_) (fun h19 => absurd h19 (not_not_intro (fd_b0.mpr hl)))
        exact r_keep [0] rfl (fin I1 f1 g5 (by rw [← he2]; exact g4))
  exact loop (b - s) s (by omega) (Nat.le_refl _) rfl I tkF.rfl' hst hn
/-- the end of the figures -/
def fgF (T : Nat → Int32) (b : Nat) : Nat → Nat → Nat
  | 0, p => p
  | m + 1, p => if dg T b p then fgF T b m (p + 1) else p
theorem fgF_ge {T : Nat → Int32} {b : Nat} : ∀ m p, p ≤ fgF T b m p ∧ fgF T b m p ≤ p + m := by
  intro m
  induction m with
  | zero => intro p; exact ⟨Nat.le_refl _, Nat.le_refl _⟩
  | succ m ih =>
    intro p
    unfold fgF
    split
    · have := ih (p + 1); omega
    · omega
theorem fg_one {T : Nat → Int32} {b s : Nat} (hd : dg T b s = true) : fgF T b (b - s) s = s + 1 ↔ fgB T b s = true := by
  have hsb : s < b := by unfold dg at hd; rw [Bool.and_eq_true] at hd; exact of_decide_eq_true hd.1
  obtain ⟨m, hm⟩ : ∃ m, b - s = m + 1 := ⟨b - s - 1, by omega⟩
  rw [hm]
  have e : fgF T b (m + 1) s = fgF T b m (s + 1) := if_pos hd
  rw [e]
  unfold fgB
  rw [hd, Bool.true_and]
  cases m with
  | zero =>
    have : dg T b (s + 1) = false := by unfold dg; rw [decide_eq_false (by omega)]; rfl
    rw [this]
    exact ⟨fun _ => rfl, fun _ => rfl⟩
  | succ m =>
    cases hd2 : dg T b (s + 1) with
    | true =>
      have e2 : fgF T b (m + 1) (s + 1) = fgF T b m (s + 1 + 1) := if_pos hd2
      have := fgF_ge (T := T) (b := b) m (s + 1 + 1)
      rw [e2]
      exact ⟨fun q => by omega, fun q => by cases q⟩
    | false =>
      have e2 : fgF T b (m + 1) (s + 1) = s + 1 := if_neg (by rw [hd2]; decide)
      rw [e2]
      exact ⟨fun _ => rfl, fun _ => rfl⟩
theorem c_X9_passFigures (T : Nat → Int32) (α : Nat → Nat) (I : fdI) (L : fdL) {b s : Nat} (hb : b ≤ 150) (h : txX T b I) (hd : dg T b s = true) (hn : I 54 4 = nI s) (hst : I 54 5 = nI s) : Con fd_SX α yX9_passFigures mX9_passFigures [.ref (α 54)] I L (fd_vp (fun I' L' => L' = L ∧ tkF I I' ∧ I' 54 5 = nI s ∧ I' 54 7 = T s - 48 ∧ (fgB T b s = true → I' 54 4 = nI (s + 1) ∧ I' 54 6 = 8) ∧ (fgB T b s = false → I' 54 6 = 10))) := by
  refine Con.of (by decide) rfl (Nat.le_of_ble_eq_true rfl) ?_
  have hsb : s < b := by unfold dg at hd; rw [Bool.and_eq_true] at hd; exact of_decide_eq_true hd.1
  have es := h.2 s hsb
  have hge := fgF_ge (T := T) (b := b) (b - s) s
  generalize hE : fgF T b (b - s) s = e at hge
  have hone := fg_one hd
  rw [hE] at hone
  have fin : ∀ I1 : fdI, tkF I I1 → I1 54 5 = nI s → I1 54 7 = T s - 48 → I1 54 4 = nI e → Rn fd_SX α mX9_passFigures 51 [(0, .ref (α 54))] [] I1 L (fd_vp (fun I' L' => L' = L ∧ tkF I I' ∧ I' 54 5 = nI s ∧ I' 54 7 = T s - 48 ∧ (fgB T b s = true → I' 54 4 = nI (s + 1) ∧ I' 54 6 = 8) ∧ (fgB T b s = false → I' 54 6 = 10))) := by
    intro I1 f1 g5 g7 g4
    have em : nI e - nI s = nI (e - s) := pk_sub (by omega)
    by_cases h1 : e = s + 1
    · have hf := hone.mp h1
      refine r_aload_n dX9_passFigures_51 rfl ?_
      refine r_aload_n dX9_passFigures_52 rfl ?_
      refine r_getV rfl rfl fl_9_26 dX9_passFigures_53 g4 ?_
      refine r_aload_n dX9_passFigures_56 rfl ?_
      refine r_getV rfl rfl fl_9_39 dX9_passFigures_57 g5 ?_
      refine r_isub dX9_passFigures_60 ?_
      rw [em, show e - s = 1 by omega]
      refine r_iconst (v := 1) dX9_passFigures_61 rfl ?_
      refine r_icmp_ne 70 dX9_passFigures_62 (by decide) (fun h62 => absurd h62 (not_not_intro rfl)) (fun h62 => ?_)
      refine r_bipush (v := 8) dX9_passFigures_65 rfl ?_
      refine r_goto (tgt := 72) dX9_passFigures_67 (by decide) ?_
      refine r_putI rfl rfl fl_9_32 fw_9_6 dX9_passFigures_72 ?_
      refine r_vret rfl dX9_passFigures_75 ?_
      refine ⟨rfl, rfl, f1.up (by decide), (fd_up_pl (by decide)).trans g5, (fd_up_pl (by decide)).trans g7, fun _ => ⟨by rw [fd_up_pl (by decide), g4, h1], fd_up_same⟩, fun z => (by rw [hf] at z; cases z)⟩
    · have hf : ¬ fgB T b s = true := fun z => h1 (hone.mpr z)
      refine r_aload_n dX9_passFigures_51 rfl ?_
      refine r_aload_n dX9_passFigures_52 rfl ?_
      refine r_getV rfl rfl fl_9_26 dX9_passFigures_53 g4 ?_
      refine r_aload_n dX9_passFigures_56 rfl ?_
      refine r_getV rfl rfl fl_9_39 dX9_passFigures_57 g5 ?_
      refine r_isub dX9_passFigures_60 ?_
      rw [em]
      refine r_iconst (v := 1) dX9_passFigures_61 rfl ?_
      refine r_icmp_ne 70 dX9_passFigures_62 (by decide) (fun h62 => ?_) (fun h62 => absurd h62 (fun q => h1 (by have := (nI_eq (b := 1) (by omega) (by decide)).mp q; omega)))
      refine r_bipush (v := 10) dX9_passFigures_70 rfl ?_
      refine r_putI rfl rfl fl_9_32 fw_9_6 dX9_passFigures_72 ?_
      refine r_vret rfl dX9_passFigures_75 ?_
      refine ⟨rfl, rfl, f1.up (by decide), (fd_up_pl (by decide)).trans g5, (fd_up_pl (by decide)).trans g7, fun z => absurd z hf, fun _ => fd_up_same⟩
  have loop : ∀ m q, q + m = b → fgF T b m q = e → ∀ I1 : fdI, tkF I I1 → I1 54 5 = nI s → I1 54 7 = T s - 48 → I1 54 4 = nI q → Rn fd_SX α mX9_passFigures 16 [(0, .ref (α 54))] [] I1 L (fd_vp (fun I' L' => L' = L ∧ tkF I I' ∧ I' 54 5 = nI s ∧ I' 54 7 = T s - 48 ∧ (fgB T b s = true → I' 54 4 = nI (s + 1) ∧ I' 54 6 = 8) ∧ (fgB T b s = false → I' 54 6 = 10))) := by
    intro m
    induction m with
    | zero =>
      intro q hq he I1 f1 g5 g7 g4
      have he : q = e := he
      have hbq : q = b := by omega
      refine r_aload_n dX9_passFigures_16 rfl ?_
      refine r_getV rfl rfl fl_9_26 dX9_passFigures_17 g4 ?_
      refine r_aload_n dX9_passFigures_20 rfl ?_
      refine r_getV rfl rfl fl_9_9 dX9_passFigures_21 (h.tk f1).1 ?_
      refine r_icmp_ge 51 dX9_passFigures_24 (by decide) (fun h24 => ?_) (fun h24 => absurd h24 (not_not_intro (by rw [hbq]; exact Int32.le_refl _)))
      exact r_keep [0] rfl (fin I1 f1 g5 g7 (by rw [← he]; exact g4))
    | succ m ih =>
      intro q hq he I1 f1 g5 g7 g4
      by_cases hl : dg T b q = true
      · have he2 : fgF T b m (q + 1) = e := by rw [← he]; exact (if_pos hl).symm
        refine r_aload_n dX9_passFigures_16 rfl ?_
        refine r_getV rfl rfl fl_9_26 dX9_passFigures_17 g4 ?_
        refine r_aload_n dX9_passFigures_20 rfl ?_
        refine r_getV rfl rfl fl_9_9 dX9_passFigures_21 (h.tk f1).1 ?_
        refine r_icmp_ge 51 dX9_passFigures_24 (by decide) (fun h24 => absurd h24 (fun z => absurd ((nI_leI (by omega) (by omega)).mp z) (by omega))) (fun h24 => ?_)
        refine r_aload_n dX9_passFigures_27 rfl ?_
        refine r_aload_n dX9_passFigures_28 rfl ?_
        refine r_getV rfl rfl fl_9_26 dX9_passFigures_29 g4 ?_
        refine r_cVr (As := [_]) (c_X9_isFigure T α _ _ q hb (h.tk f1) (by omega)) lk_9_52 rfl rfl (by decide) (by decide) rfl rfl (Nat.le_of_ble_eq_true rfl) dX9_passFigures_32 ?_
        refine r_if_eq 51 dX9_passFigures_35 (by decide) (fun h35 => absurd h35 (fd_bn.mpr hl)) (fun h35 => ?_)
        refine r_aload_n dX9_passFigures_38 rfl ?_
        refine r_dup dX9_passFigures_39 rfl ?_
        refine r_getV rfl rfl fl_9_26 dX9_passFigures_40 g4 ?_
        refine r_iconst (v := 1) dX9_passFigures_43 rfl ?_
        refine r_iadd dX9_passFigures_44 ?_
        rw [nI_1]
        refine r_putI rfl rfl fl_9_26 fw_9_4 dX9_passFigures_45 ?_
        refine r_goto (tgt := 16) dX9_passFigures_48 (by decide) ?_
        exact r_keep [0] rfl (ih (q + 1) (by omega) he2 _ (f1.up (by decide)) ((fd_up_pl (by decide)).trans g5) ((fd_up_pl (by decide)).trans g7) fd_up_same)
      · have he2 : q = e := by rw [← he]; exact (if_neg hl).symm
        refine r_aload_n dX9_passFigures_16 rfl ?_
        refine r_getV rfl rfl fl_9_26 dX9_passFigures_17 g4 ?_
        refine r_aload_n dX9_passFigures_20 rfl ?_
        refine r_getV rfl rfl fl_9_9 dX9_passFigures_21 (h.tk f1).1 ?_
        refine r_icmp_ge 51 dX9_passFigures_24 (by decide) (fun h24 => absurd h24 (fun z => absurd ((nI_leI (by omega) (by omega)).mp z) (by omega))) (fun h24 => ?_)
        refine r_aload_n dX9_passFigures_27 rfl ?_
        refine r_aload_n dX9_passFigures_28 rfl ?_
        refine r_getV rfl rfl fl_9_26 dX9_passFigures_29 g4 ?_
        refine r_cVr (As := [_]) (c_X9_isFigure T α _ _ q hb (h.tk f1) (by omega)) lk_9_52 rfl rfl (by decide) (by decide) rfl rfl (Nat.le_of_ble_eq_true rfl) dX9_passFigures_32 ?_
        refine r_if_eq 51 dX9_passFigures_35 (by decide) (fun h35 => ?_) (fun h35 => absurd h35 (not_not_intro (fd_b0.mpr hl)))
        exact r_keep [0] rfl (fin I1 f1 g5 g7 (by rw [← he2]; exact g4))
  refine r_aload_n dX9_passFigures_0 rfl ?_
  refine r_aload_n dX9_passFigures_1 rfl ?_
  refine r_getR rfl rfl fl_9_22 dX9_passFigures_2 ?_
  refine r_aload_n dX9_passFigures_5 rfl ?_
  refine r_getV rfl rfl fl_9_39 dX9_passFigures_6 hst ?_
  refine r_baldN rfl dX9_passFigures_9 (by omega) (by omega) es ?_
  refine r_bipush (v := 48) dX9_passFigures_10 rfl ?_
  refine r_isub dX9_passFigures_12 ?_
  refine r_putI rfl rfl fl_9_42 fw_9_7 dX9_passFigures_13 ?_
  exact r_keep [0] rfl (loop (b - s) s (by omega) hE _ (tkF.rfl'.up (by decide)) ((fd_up_pl (by decide)).trans hst) fd_up_same ((fd_up_pl (by decide)).trans hn))
/-- the token at s -/
def tkD (T : Nat → Int32) (b s : Nat) (I : fdI) : Prop := I 54 5 = nI s ∧ ((s = b ∧ I 54 6 = 11) ∨ (s < b ∧ isL T s = true ∧ I 54 6 = nI (wdT T s (le T b s - s) 7) ∧ I 54 4 = nI (le T b s)) ∨ (fgB T b s = true ∧ I 54 6 = 8 ∧ I 54 4 = nI (s + 1) ∧ I 54 7 = T s - 48) ∨ (s < b ∧ T s = 59 ∧ I 54 6 = 9 ∧ I 54 4 = nI (s + 1)) ∨ (s < b ∧ isL T s = false ∧ fgB T b s = false ∧ ¬ T s = 59 ∧ I 54 6 = 10))
theorem isL_59 {T : Nat → Int32} {s : Nat} (h : T s = 59) : isL T s = false := by unfold isL; rw [h]; rfl
theorem dg_59 {T : Nat → Int32} {b s : Nat} (h : T s = 59) : dg T b s = false := by unfold dg; rw [h]; exact Bool.and_false _
theorem isL_dg {T : Nat → Int32} {b s : Nat} (h : dg T b s = true) : isL T s = false := by
  unfold dg at h
  rw [Bool.and_eq_true] at h
  have := of_decide_eq_true h.2
  unfold isL
  exact decide_eq_false (by omega)
theorem c_X9_nextToken (T : Nat → Int32) (α : Nat → Nat) (I : fdI) (L : fdL) {b q : Nat} (hb : b ≤ 150) (h : txX T b I) (hq : q ≤ b) (hn : I 54 4 = nI q) : Con fd_SX α yX9_nextToken mX9_nextToken [.ref (α 54)] I L (fd_vp (fun I' L' => L' = L ∧ tkF I I' ∧ tkD T b (sk T b q) I')) := by
  refine Con.of (by decide) rfl (Nat.le_of_ble_eq_true rfl) ?_
  have hsk := sk_le (T := T) hq
  generalize hS : sk T b q = s at hsk
  have fin : ∀ I1 : fdI, tkF I I1 → I1 54 4 = nI s → Rn fd_SX α mX9_nextToken 38 [(0, .ref (α 54))] [] I1 L (fd_vp (fun I' L' => L' = L ∧ tkF I I' ∧ tkD T b s I')) := by
    intro I1 f1 g4
    have f2 : tkF I (fd_up I1 54 5 (nI s)) := f1.up (by decide)
    have h2 := h.tk f2
    by_cases hsb : s = b
    · refine r_aload_n dX9_nextToken_38 rfl ?_
      refine r_aload_n dX9_nextToken_39 rfl ?_
      refine r_getV rfl rfl fl_9_26 dX9_nextToken_40 g4 ?_
      refine r_putI rfl rfl fl_9_39 fw_9_5 dX9_nextToken_43 ?_
      refine r_aload_n dX9_nextToken_46 rfl ?_
      refine r_getV rfl rfl fl_9_26 dX9_nextToken_47 ((fd_up_pl (by decide)).trans g4) ?_
      refine r_aload_n dX9_nextToken_50 rfl ?_
      refine r_getV rfl rfl fl_9_9 dX9_nextToken_51 h2.1 ?_
      refine r_icmp_lt 64 dX9_nextToken_54 (by decide) (fun h54 => absurd h54 (fun z => absurd ((nI_ltI (by omega) (by omega)).mp z) (by omega))) (fun h54 => ?_)
      refine r_aload_n dX9_nextToken_57 rfl ?_
      refine r_bipush (v := 11) dX9_nextToken_58 rfl ?_
      refine r_putI rfl rfl fl_9_32 fw_9_6 dX9_nextToken_60 ?_
      refine r_vret rfl dX9_nextToken_63 ?_
      exact ⟨rfl, rfl, f2.up (by decide), (fd_up_pl (by decide)).trans fd_up_same, Or.inl ⟨hsb, fd_up_same⟩⟩
    · have hlt : s < b := by omega
      by_cases hl : isL T s = true
      · refine r_aload_n dX9_nextToken_38 rfl ?_
        refine r_aload_n dX9_nextToken_39 rfl ?_
        refine r_getV rfl rfl fl_9_26 dX9_nextToken_40 g4 ?_
        refine r_putI rfl rfl fl_9_39 fw_9_5 dX9_nextToken_43 ?_
        refine r_aload_n dX9_nextToken_46 rfl ?_
        refine r_getV rfl rfl fl_9_26 dX9_nextToken_47 ((fd_up_pl (by decide)).trans g4) ?_
        refine r_aload_n dX9_nextToken_50 rfl ?_
        refine r_getV rfl rfl fl_9_9 dX9_nextToken_51 h2.1 ?_
        refine r_icmp_lt 64 dX9_nextToken_54 (by decide) (fun h54 => ?_) (fun h54 => absurd h54 (not_not_intro ((nI_ltI (by omega) (by omega)).mpr hlt)))
        refine r_aload_n dX9_nextToken_64 rfl ?_
        refine r_aload_n dX9_nextToken_65 rfl ?_
        refine r_getV rfl rfl fl_9_26 dX9_nextToken_66 ((fd_up_pl (by decide)).trans g4) ?_
        refine r_cVr (As := [_]) (c_X9_isLetter T α _ _ s hb h2 hlt) lk_9_45 rfl rfl (by decide) (by decide) rfl rfl (Nat.le_of_ble_eq_true rfl) dX9_nextToken_69 ?_
        refine r_if_eq 82 dX9_nextToken_72 (by decide) (fun h72 => absurd h72 (fd_bn.mpr hl)) (fun h72 => ?_)
        refine r_aload_n dX9_nextToken_75 rfl ?_
        refine r_cVq (As := []) (c_X9_passLetters T α _ _ hb h2 (by omega) ((fd_up_pl (by decide)).trans g4) fd_up_same) lk_9_49 rfl rfl (by decide) (by decide) rfl rfl (Nat.le_of_ble_eq_true rfl) dX9_nextToken_76 (fun I76 L76 q76 => ?_)
        obtain ⟨rfl, f76, y5, y4, y6⟩ := q76
        refine r_goto (tgt := 135) dX9_nextToken_79 (by decide) ?_
        refine r_vret rfl dX9_nextToken_135 ?_
        exact ⟨rfl, rfl, f2.trans f76, y5, Or.inr (Or.inl ⟨hlt, hl, y6, y4⟩)⟩
      · have hl0 := Bool.eq_false_iff.mpr hl
        by_cases hd : dg T b s = true
        · refine r_aload_n dX9_nextToken_38 rfl ?_
          refine r_aload_n dX9_nextToken_39 rfl ?_
          refine r_getV rfl rfl fl_9_26 dX9_nextToken_40 g4 ?_
          refine r_putI rfl rfl fl_9_39 fw_9_5 dX9_nextToken_43 ?_
          refine r_aload_n dX9_nextToken_46 rfl ?_
          refine r_getV rfl rfl fl_9_26 dX9_nextToken_47 ((fd_up_pl (by decide)).trans g4) ?_
          refine r_aload_n dX9_nextToken_50 rfl ?_
          refine r_getV rfl rfl fl_9_9 dX9_nextToken_51 h2.1 ?_
          refine r_icmp_lt 64 dX9_nextToken_54 (by decide) (fun h54 => ?_) (fun h54 => absurd h54 (not_not_intro ((nI_ltI (by omega) (by omega)).mpr hlt)))
          refine r_aload_n dX9_nextToken_64 rfl ?_
          refine r_aload_n dX9_nextToken_65 rfl ?_
          refine r_getV rfl rfl fl_9_26 dX9_nextToken_66 ((fd_up_pl (by decide)).trans g4) ?_
          refine r_cVr (As := [_]) (c_X9_isLetter T α _ _ s hb h2 hlt) lk_9_45 rfl rfl (by decide) (by decide) rfl rfl (Nat.le_of_ble_eq_true rfl) dX9_nextToken_69 ?_
          refine r_if_eq 82 dX9_nextToken_72 (by decide) (fun h72 => ?_) (fun h72 => absurd h72 (not_not_intro (fd_b0.mpr hl)))
          refine r_aload_n dX9_nextToken_82 rfl ?_
          refine r_aload_n dX9_nextToken_83 rfl ?_
          refine r_getV rfl rfl fl_9_26 dX9_nextToken_84 ((fd_up_pl (by decide)).trans g4) ?_
          refine r_cVr (As := [_]) (c_X9_isFigure T α _ _ s hb h2 hlt) lk_9_52 rfl rfl (by decide) (by decide) rfl rfl (Nat.le_of_ble_eq_true rfl) dX9_nextToken_87 ?_
          refine r_if_eq 100 dX9_nextToken_90 (by decide) (fun h90 => absurd h90 (fd_bn.mpr hd)) (fun h90 => ?_)
          refine r_aload_n dX9_nextToken_93 rfl ?_
          refine r_cVq (As := []) (c_X9_passFigures T α _ _ hb h2 hd ((fd_up_pl (by decide)).trans g4) fd_up_same) lk_9_55 rfl rfl (by decide) (by decide) rfl rfl (Nat.le_of_ble_eq_true rfl) dX9_nextToken_94 (fun I94 L94 q94 => ?_)
          obtain ⟨rfl, f94, y5, y7, y1, y0⟩ := q94
          refine r_goto (tgt := 135) dX9_nextToken_97 (by decide) ?_
          refine r_vret rfl dX9_nextToken_135 ?_
          refine ⟨rfl, rfl, f2.trans f94, y5, ?_⟩
          cases hf : fgB T b s with
          | true => exact Or.inr (Or.inr (Or.inl ⟨rfl, (y1 hf).2, (y1 hf).1, y7⟩))
          | false => exact Or.inr (Or.inr (Or.inr (Or.inr ⟨hlt, hl0, rfl, fun z => (by rw [dg_59 z] at hd; cases hd), y0 hf⟩)))
        · have hf : fgB T b s = false := by unfold fgB; rw [Bool.eq_false_iff.mpr hd]; rfl
          have ec := h2.2 s hlt
          by_cases h59 : T s = 59
          · refine r_aload_n dX9_nextToken_38 rfl ?_
            refine r_aload_n dX9_nextToken_39 rfl ?_
            refine r_getV rfl rfl fl_9_26 dX9_nextToken_40 g4 ?_
            refine r_putI rfl rfl fl_9_39 fw_9_5 dX9_nextToken_43 ?_
            refine r_aload_n dX9_nextToken_46 rfl ?_
            refine r_getV rfl rfl fl_9_26 dX9_nextToken_47 ((fd_up_pl (by decide)).trans g4) ?_
            refine r_aload_n dX9_nextToken_50 rfl ?_
            refine r_getV rfl rfl fl_9_9 dX9_nextToken_51 h2.1 ?_
            refine r_icmp_lt 64 dX9_nextToken_54 (by decide) (fun h54 => ?_) (fun h54 => absurd h54 (not_not_intro ((nI_ltI (by omega) (by omega)).mpr hlt)))
            refine r_aload_n dX9_nextToken_64 rfl ?_
            refine r_aload_n dX9_nextToken_65 rfl ?_
            refine r_getV rfl rfl fl_9_26 dX9_nextToken_66 ((fd_up_pl (by decide)).trans g4) ?_
            refine r_cVr (As := [_]) (c_X9_isLetter T α _ _ s hb h2 hlt) lk_9_45 rfl rfl (by decide) (by decide) rfl rfl (Nat.le_of_ble_eq_true rfl) dX9_nextToken_69 ?_
            refine r_if_eq 82 dX9_nextToken_72 (by decide) (fun h72 => ?_) (fun h72 => absurd h72 (not_not_intro (fd_b0.mpr hl)))
            refine r_aload_n dX9_nextToken_82 rfl ?_
            refine r_aload_n dX9_nextToken_83 rfl ?_
            refine r_getV rfl rfl fl_9_26 dX9_nextToken_84 ((fd_up_pl (by decide)).trans g4) ?_
            refine r_cVr (As := [_]) (c_X9_isFigure T α _ _ s hb h2 hlt) lk_9_52 rfl rfl (by decide) (by decide) rfl rfl (Nat.le_of_ble_eq_true rfl) dX9_nextToken_87 ?_
            refine r_if_eq 100 dX9_nextToken_90 (by decide) (fun h90 => ?_) (fun h90 => absurd h90 (not_not_intro (fd_b0.mpr hd)))
            refine r_aload_n dX9_nextToken_100 rfl ?_
            refine r_aload_n dX9_nextToken_101 rfl ?_
            refine r_getR rfl rfl fl_9_22 dX9_nextToken_102 ?_
            refine r_aload_n dX9_nextToken_105 rfl ?_
            refine r_getV rfl rfl fl_9_26 dX9_nextToken_106 ((fd_up_pl (by decide)).trans g4) ?_
            refine r_baldN rfl dX9_nextToken_109 (by omega) (by omega) ec ?_
            refine r_bipush (v := 59) dX9_nextToken_110 rfl ?_
            refine r_icmp_ne 120 dX9_nextToken_112 (by decide) (fun h112 => absurd h112 (not_not_intro h59)) (fun h112 => ?_)
            refine r_bipush (v := 9) dX9_nextToken_115 rfl ?_
            refine r_goto (tgt := 122) dX9_nextToken_117 (by decide) ?_
            refine r_putI rfl rfl fl_9_32 fw_9_6 dX9_nextToken_122 ?_
            refine r_aload_n dX9_nextToken_125 rfl ?_
            refine r_dup dX9_nextToken_126 rfl ?_
            refine r_getV rfl rfl fl_9_26 dX9_nextToken_127 ((fd_up_pl (by decide)).trans ((fd_up_pl (by decide)).trans g4)) ?_
            refine r_iconst (v := 1) dX9_nextToken_130 rfl ?_
            refine r_iadd dX9_nextToken_131 ?_
            rw [nI_1]
            refine r_putI rfl rfl fl_9_26 fw_9_4 dX9_nextToken_132 ?_
            refine r_vret rfl dX9_nextToken_135 ?_
            exact ⟨rfl, rfl, (f2.up (by decide)).up (by decide), (fd_up_pl (by decide)).trans ((fd_up_pl (by decide)).trans fd_up_same), Or.inr (Or.inr (Or.inr (Or.inl ⟨hlt, h59, (fd_up_pl (by decide)).trans fd_up_same, fd_up_same⟩)))⟩
          · refine r_aload_n dX9_nextToken_38 rfl ?_
            refine r_aload_n dX9_nextToken_39 rfl ?_
            refine r_getV rfl rfl fl_9_26 dX9_nextToken_40 g4 ?_
            refine r_putI rfl rfl fl_9_39 fw_9_5 dX9_nextToken_43 ?_
            refine r_aload_n dX9_nextToken_46 rfl ?_
            refine r_getV rfl rfl fl_9_26 dX9_nextToken_47 ((fd_up_pl (by decide)).trans g4) ?_
            refine r_aload_n dX9_nextToken_50 rfl ?_
            refine r_getV rfl rfl fl_9_9 dX9_nextToken_51 h2.1 ?_
            refine r_icmp_lt 64 dX9_nextToken_54 (by decide) (fun h54 => ?_) (fun h54 => absurd h54 (not_not_intro ((nI_ltI (by omega) (by omega)).mpr hlt)))
            refine r_aload_n dX9_nextToken_64 rfl ?_
            refine r_aload_n dX9_nextToken_65 rfl ?_
            refine r_getV rfl rfl fl_9_26 dX9_nextToken_66 ((fd_up_pl (by decide)).trans g4) ?_
            refine r_cVr (As := [_]) (c_X9_isLetter T α _ _ s hb h2 hlt) lk_9_45 rfl rfl (by decide) (by decide) rfl rfl (Nat.le_of_ble_eq_true rfl) dX9_nextToken_69 ?_
            refine r_if_eq 82 dX9_nextToken_72 (by decide) (fun h72 => ?_) (fun h72 => absurd h72 (not_not_intro (fd_b0.mpr hl)))
            refine r_aload_n dX9_nextToken_82 rfl ?_
            refine r_aload_n dX9_nextToken_83 rfl ?_
            refine r_getV rfl rfl fl_9_26 dX9_nextToken_84 ((fd_up_pl (by decide)).trans g4) ?_
            refine r_cVr (As := [_]) (c_X9_isFigure T α _ _ s hb h2 hlt) lk_9_52 rfl rfl (by decide) (by decide) rfl rfl (Nat.le_of_ble_eq_true rfl) dX9_nextToken_87 ?_
            refine r_if_eq 100 dX9_nextToken_90 (by decide) (fun h90 => ?_) (fun h90 => absurd h90 (not_not_intro (fd_b0.mpr hd)))
            refine r_aload_n dX9_nextToken_100 rfl ?_
            refine r_aload_n dX9_nextToken_101 rfl ?_
            refine r_getR rfl rfl fl_9_22 dX9_nextToken_102 ?_
            refine r_aload_n dX9_nextToken_105 rfl ?_
            refine r_getV rfl rfl fl_9_26 dX9_nextToken_106 ((fd_up_pl (by decide)).trans g4) ?_
            refine r_baldN rfl dX9_nextToken_109 (by omega) (by omega) ec ?_
            refine r_bipush (v := 59) dX9_nextToken_110 rfl ?_
            refine r_icmp_ne 120 dX9_nextToken_112 (by decide) (fun h112 => ?_) (fun h112 => absurd h112 h59)
            refine r_bipush (v := 10) dX9_nextToken_120 rfl ?_
            refine r_putI rfl rfl fl_9_32 fw_9_6 dX9_nextToken_122 ?_
            refine r_aload_n dX9_nextToken_125 rfl ?_
            refine r_dup dX9_nextToken_126 rfl ?_
            refine r_getV rfl rfl fl_9_26 dX9_nextToken_127 ((fd_up_pl (by decide)).trans ((fd_up_pl (by decide)).trans g4)) ?_
            refine r_iconst (v := 1) dX9_nextToken_130 rfl ?_
            refine r_iadd dX9_nextToken_131 ?_
            rw [nI_1]
            refine r_putI rfl rfl fl_9_26 fw_9_4 dX9_nextToken_132 ?_
            refine r_vret rfl dX9_nextToken_135 ?_
            exact ⟨rfl, rfl, (f2.up (by decide)).up (by decide), (fd_up_pl (by decide)).trans ((fd_up_pl (by decide)).trans fd_up_same), Or.inr (Or.inr (Or.inr (Or.inr ⟨hlt, hl0, hf, h59, (fd_up_pl (by decide)).trans fd_up_same⟩)))⟩
  have loop : ∀ m x, x + m = b → skF T m x = s → ∀ I1 : fdI, tkF I I1 → I1 54 4 = nI x → Rn fd_SX α mX9_nextToken 0 [(0, .ref (α 54))] [] I1 L (fd_vp (fun I' L' => L' = L ∧ tkF I I' ∧ tkD T b s I')) := by
    intro m
    induction m with
    | zero =>
      intro x hx he I1 f1 g4
      have he : x = s := he
      have hbx : x = b := by omega
      refine r_aload_n dX9_nextToken_0 rfl ?_
      refine r_getV rfl rfl fl_9_26 dX9_nextToken_1 g4 ?_
      refine r_aload_n dX9_nextToken_4 rfl ?_
      refine r_getV rfl rfl fl_9_9 dX9_nextToken_5 (h.tk f1).1 ?_
      refine r_icmp_ge 38 dX9_nextToken_8 (by decide) (fun h8 => ?_) (fun h8 => absurd h8 (not_not_intro (by rw [hbx]; exact Int32.le_refl _)))
      exact r_keep [0] rfl (fin I1 f1 (by rw [← he]; exact g4))
    | succ m ih =>
      intro x hx he I1 f1 g4
      have ec := (h.tk f1).2 x (by omega)
      by_cases h32 : T x = 32
      · have he2 : skF T m (x + 1) = s := by rw [← he]; exact (if_pos h32).symm
        refine r_aload_n dX9_nextToken_0 rfl ?_
        refine r_getV rfl rfl fl_9_26 dX9_nextToken_1 g4 ?_
        refine r_aload_n dX9_nextToken_4 rfl ?_
        refine r_getV rfl rfl fl_9_9 dX9_nextToken_5 (h.tk f1).1 ?_
        refine r_icmp_ge 38 dX9_nextToken_8 (by decide) (fun h8 => absurd h8 (fun z => absurd ((nI_leI (by omega) (by omega)).mp z) (by omega))) (fun h8 => ?_)
        refine r_aload_n dX9_nextToken_11 rfl ?_
        refine r_getR rfl rfl fl_9_22 dX9_nextToken_12 ?_
        refine r_aload_n dX9_nextToken_15 rfl ?_
        refine r_getV rfl rfl fl_9_26 dX9_nextToken_16 g4 ?_
        refine r_baldN rfl dX9_nextToken_19 (by omega) (by omega) ec ?_
        refine r_bipush (v := 32) dX9_nextToken_20 rfl ?_
        refine r_icmp_ne 38 dX9_nextToken_22 (by decide) (fun h22 => absurd h22 (not_not_intro h32)) (fun h22 => ?_)
        refine r_aload_n dX9_nextToken_25 rfl ?_
        refine r_dup dX9_nextToken_26 rfl ?_
        refine r_getV rfl rfl fl_9_26 dX9_nextToken_27 g4 ?_
        refine r_iconst (v := 1) dX9_nextToken_30 rfl ?_
        refine r_iadd dX9_nextToken_31 ?_
        rw [nI_1]
        refine r_putI rfl rfl fl_9_26 fw_9_4 dX9_nextToken_32 ?_
        refine r_goto (tgt := 0) dX9_nextToken_35 (by decide) ?_
        exact r_keep [0] rfl (ih (x + 1) (by omega) he2 _ (f1.up (by decide)) fd_up_same)
      · have he2 : x = s := by rw [← he]; exact (if_neg h32).symm
        refine r_aload_n dX9_nextToken_0 rfl ?_
        refine r_getV rfl rfl fl_9_26 dX9_nextToken_1 g4 ?_
        refine r_aload_n dX9_nextToken_4 rfl ?_
        refine r_getV rfl rfl fl_9_9 dX9_nextToken_5 (h.tk f1).1 ?_
        refine r_icmp_ge 38 dX9_nextToken_8 (by decide) (fun h8 => absurd h8 (fun z => absurd ((nI_leI (by omega) (by omega)).mp z) (by omega))) (fun h8 => ?_)
        refine r_aload_n dX9_nextToken_11 rfl ?_
        refine r_getR rfl rfl fl_9_22 dX9_nextToken_12 ?_
        refine r_aload_n dX9_nextToken_15 rfl ?_
        refine r_getV rfl rfl fl_9_26 dX9_nextToken_16 g4 ?_
        refine r_baldN rfl dX9_nextToken_19 (by omega) (by omega) ec ?_
        refine r_bipush (v := 32) dX9_nextToken_20 rfl ?_
        refine r_icmp_ne 38 dX9_nextToken_22 (by decide) (fun h22 => ?_) (fun h22 => absurd h22 h32)
        exact r_keep [0] rfl (fin I1 f1 (by rw [← he2]; exact g4))
  exact loop (b - q) q (by omega) hS I tkF.rfl' hn
