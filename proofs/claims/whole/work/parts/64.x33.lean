/-! the seven words: the String constants, their length and their characters, by the JDK's own methods -/
section FDS
variable {S : List fdE} {α : Nat → Nat} {y : fdM} {pc : Nat} {lv : List (Nat × Value)} {st : List Value} {I : fdI} {L : fdL} {Q : Option Value → fdI → fdL → Prop}
theorem r_ldcS {i : Nat} (ho : y.2.2.1 = RX9) (hi : i < 7) (hdg : decode y.1 pc = .ok (.ldc (75 + 2 * i), 2)) (K : Rn S α y (pc + 2) lv (.ref (α (1001 + i)) :: st) I L Q) : Rn S α y pc lv st I L Q := by
  intro p l e s m args below meth c A dC dI dA F H locs ls hP hS hl
  have hR := F.2.2.2.2.2.2.2.2.2.1.2.2.2.1 i hi
  exact va_ldcS (own := RX9) F.1 F.2.1 (by rw [← ho]; exact F.2.2.2.1) hR hdg (K p l e s m args below meth c A dC dI dA F H locs ls hP hS hl)
theorem r_strV {i idx : Nat} (hw : Cond.fieldLink y.2.2.1 idx "java/lang/String" "value" "[B" ∈ fd_tb) (hi : i < 7) (hdg : decode y.1 pc = .ok (.getfield idx, 3)) (K : Rn S α y (pc + 3) lv (.ref (α (1011 + i)) :: st) I L Q) : Rn S α y pc lv (.ref (α (1001 + i)) :: st) I L Q := by
  intro p l e s m args below meth c A dC dI dA F H locs ls hP hS hl
  exact vk_getf F.1 F.2.1 (F.2.2.2.2.2.2.2.2.2.1.2.2.1.1 i hi).2.2.1 hS F.2.2.2.1 (F.2.2.2.2.2.2.1 _ hw) (fun x hx => hx) hdg (K p l e s m args below meth c A dC dI dA F H locs ls hP hS hl)
theorem r_strC {i idx : Nat} (hw : Cond.fieldLink y.2.2.1 idx "java/lang/String" "coder" "B" ∈ fd_tb) (hi : i < 7) (hdg : decode y.1 pc = .ok (.getfield idx, 3)) (K : Rn S α y (pc + 3) lv (.int 0 :: st) I L Q) : Rn S α y pc lv (.ref (α (1001 + i)) :: st) I L Q := by
  intro p l e s m args below meth c A dC dI dA F H locs ls hP hS hl
  exact vk_getf F.1 F.2.1 (F.2.2.2.2.2.2.2.2.2.1.2.2.1.1 i hi).2.1 hS F.2.2.2.1 (F.2.2.2.2.2.2.1 _ hw) (fun x hx => hx) hdg (K p l e s m args below meth c A dC dI dA F H locs ls hP hS hl)
theorem r_strL {i : Nat} (hi : i < 7) (hdg : decode y.1 pc = .ok (.arraylength, 1)) (K : Rn S α y (pc + 1) lv (.int (nI (fd_len.getD i 0)) :: st) I L Q) : Rn S α y pc lv (.ref (α (1011 + i)) :: st) I L Q := by
  intro p l e s m args below meth c A dC dI dA F H locs ls hP hS hl
  exact va_tlen F.1 F.2.1 (F.2.2.2.2.2.2.2.2.2.1.2.2.1.1 i hi).2.2.2 hS rfl hdg (K p l e s m args below meth c A dC dI dA F H locs ls hP hS hl)
theorem wdL_ok : ∀ i, i < 7 → 2 ≤ fd_len.getD i 0 ∧ fd_len.getD i 0 ≤ 7 := by decide
def wdC (i k : Nat) : Int32 := (fd_byt.getD i []).getD k 0
theorem r_strB {i k : Nat} (hi : i < 7) (hk : k < fd_len.getD i 0) (hk2 : k < 2 ^ 31) (hdg : decode y.1 pc = .ok (.baload, 1)) (K : Rn S α y (pc + 1) lv (.int (wdC i k) :: st) I L Q) : Rn S α y pc lv (.int (nI k) :: .ref (α (1011 + i)) :: st) I L Q := by
  intro p l e s m args below meth c A dC dI dA F H locs ls hP hS hl
  have hlen := wdL_ok i hi
  exact va_tb F.1 F.2.1 (F.2.2.2.2.2.2.2.2.2.1.2.2.1.1 i hi).2.2.2 hS (vp_in_nI hk (by omega)) (by rw [nI_clamp hk2]; rfl) hdg (K p l e s m args below meth c A dC dI dA F H locs ls hP hS hl)
theorem r_compact {idx : Nat} (hw : Cond.fieldLink y.2.2.1 idx "java/lang/String" "COMPACT_STRINGS" "Z" ∈ fd_tb) (hdg : decode y.1 pc = .ok (.getstatic idx, 3)) (K : Rn S α y (pc + 3) lv (.int 1 :: st) I L Q) : Rn S α y pc lv st I L Q := by
  intro p l e s m args below meth c A dC dI dA F H locs ls hP hS hl
  exact va_gets F.1 F.2.1 F.2.2.2.2.2.2.2.2.2.1.2.2.2.2.1 hS F.2.2.2.1 (F.2.2.2.2.2.2.1 _ hw) (fun x hx => hx) hdg (K p l e s m args below meth c A dC dI dA F H locs ls hP hS hl)
theorem r_sioobe {idx : Nat} (hw : Cond.fieldLink y.2.2.1 idx "jdk/internal/util/Preconditions" "SIOOBE_FORMATTER" "Ljava/util/function/BiFunction;" ∈ fd_tb) (hdg : decode y.1 pc = .ok (.getstatic idx, 3)) (K : ∀ v : Value, (v = .null ∨ ∃ t, v = .ref t) → Rn S α y (pc + 3) lv (v :: st) I L Q) : Rn S α y pc lv st I L Q := by
  intro p l e s m args below meth c A dC dI dA F H locs ls hP hS hl
  rcases F.2.2.2.2.2.2.2.2.2.1.2.2.2.2.2.1 with hZ | ⟨t, hZ⟩
  · exact va_gets F.1 F.2.1 hZ hS F.2.2.2.1 (F.2.2.2.2.2.2.1 _ hw) (fun x hx => hx) hdg (K _ (Or.inl rfl) p l e s m args below meth c A dC dI dA F H locs ls hP hS hl)
  · exact va_gets F.1 F.2.1 hZ hS F.2.2.2.1 (F.2.2.2.2.2.2.1 _ hw) (fun x hx => hx) hdg (K _ (Or.inr ⟨t, rfl⟩) p l e s m args below meth c A dC dI dA F H locs ls hP hS hl)
theorem r_nret {v : Int32} {ty : FieldType} (hr : y.2.2.2.1 = some ty) (hn : narrow ty (.int v) = .int v) (hdg : decode y.1 pc = .ok (.ireturn, 1)) (hq : Q (some (.int v)) I L) : Rn S α y pc lv ([.int v]) I L Q := by
  intro p l e s m args below meth c A dC dI dA F H locs ls hP hS hl
  have hlocks : meth.locks = false := F.2.2.2.2.2.1
  exact W.zret F.1 F.2.1 (F.2.2.2.2.1.trans hr) hn (fun t ht hW => ⟨⟨_, I, L, rfl, hq, by rw [ht]; exact hP⟩, hS.F ht⟩) hS.2.2 hdg
theorem r_cTr {mz : fdM} {z : MethodName} {idx n i : Nat} {st0 As : List Value} {I' : fdI} {L' : fdL} {r : Value} (hc : Con S α z mz (.ref (α (1001 + i)) :: As) I L (fd_is (some r) I' L')) (hi : i < 7) (hlk : fd_lkV y.2.2.1 idx z mz n) (hcl : z.cls = "java/lang/String") (hd : mz.2.2.2.2 + 1 ≤ y.2.2.2.2) (hm : mz.2.1 ≤ 17) (hn : As.length = n) (hst : As.reverse ++ .ref (α (1001 + i)) :: st = st0) (hcat : (st.map fun v => v.category).sum ≤ 8) (hdg : decode y.1 pc = .ok (.invokevirtual idx, 3)) (K : Rn S α y (pc + 3) lv (r :: st) I' L' Q) : Rn S α y pc lv st0 I L Q := by
  subst hst
  intro p l e s m args below meth c A dC dI dA F H locs ls hP hS hl
  obtain ⟨k1, k2, k3, k4, k5, k6, k7, k8⟩ := hlk
  have hrv := vk_recv F.2.2.2.2.2.2.2.2.2.1.2.2.1 hi hS
  rw [← hcl] at hrv
  refine fd_cont F hS (va_runV (As := As) (C := z.cls) (own := y.2.2.1) (n := n) ⟨F.1, F.2.1, F.2.2.1, F.2.2.2.1, F.2.2.2.2.2.2.1⟩ (hc l dC dI dA H.size) (cwV n F.2.2.2.2.2.2.1 (fd_gi ?_) rfl rfl rfl ⟨rfl, k6, k7, k8⟩ (fd_room hd hm)) ⟨fd_blind, hrv, fd_pre F hP hS⟩ rfl hn hl.1 rfl (lv_room hcat) hdg ⟨Nat.zero_le _, Nat.zero_le _⟩) (fun rv J M hq H1 locs1 hP1 hS1 => ?_)
  · intro w hw
    simp only [wsV, List.cons_append, List.nil_append, List.mem_cons] at hw
    rcases hw with rfl | rfl | rfl | rfl | rfl | hw
    · exact k1
    · exact k2
    · exact k3
    · exact k4
    · exact k5
    · exact hw
  · obtain ⟨rfl, rfl, rfl⟩ := hq
    exact K p l e s m args below meth c A dC dI dA F H1 locs1 ls hP1 hS1 hl
end FDS
theorem wdC_ok : ∀ i, i < 7 → ∀ k, k < fd_len.getD i 0 → (97 ≤ (wdC i k).toInt ∧ (wdC i k).toInt ≤ 122) ∧ ((wdC i k &&& 255).toUInt32 % 65536).toInt32 = wdC i k := by decide +kernel
theorem wdC_nar {i k : Nat} (hi : i < 7) (hk : k < fd_len.getD i 0) : narrow .char (.int (wdC i k)) = .int (wdC i k) := by
  have h := (wdC_ok i hi k hk).1
  obtain ⟨q, hq, e⟩ := dayP_nI (d := wdC i k) (n := 128) ⟨by omega, by omega⟩
  rw [e]
  exact (pk_charN (by omega)).1
section STRM
variable {S : List fdE} (α : Nat → Nat) (I : fdI) (L : fdL)
theorem c_strCoder (i : Nat) (hi : i < 7) : Con S α yJ0_coder_7d493 mJ0_coder_7d493 [.ref (α (1001 + i))] I L (fd_is (some (.int 0)) I L) := by
  refine Con.of (by decide) rfl (Nat.le_of_ble_eq_true rfl) ?_
  refine r_compact (fd_in 516 (by decide +kernel) (by decide +kernel)) dJ0_coder_7d493_0 ?_
  refine r_if_eq 13 dJ0_coder_7d493_3 (by decide) (fun h => absurd h (by decide)) (fun _ => ?_)
  refine r_aload_n dJ0_coder_7d493_6 rfl ?_
  refine r_strC (fd_in 1398 (by decide +kernel) (by decide +kernel)) hi dJ0_coder_7d493_7 ?_
  refine r_goto (tgt := 14) dJ0_coder_7d493_10 (by decide) ?_
  refine r_nret rfl rfl dJ0_coder_7d493_14 ?_
  exact fd_isI rfl rfl rfl
theorem c_strLatin (i : Nat) (hi : i < 7) : Con S α yJ0_isLatin1_aae02 mJ0_isLatin1_aae02 [.ref (α (1001 + i))] I L (fd_is (some (.int 1)) I L) := by
  refine Con.of (by decide) rfl (Nat.le_of_ble_eq_true rfl) ?_
  refine r_compact (fd_in 516 (by decide +kernel) (by decide +kernel)) dJ0_isLatin1_aae02_0 ?_
  refine r_if_eq 17 dJ0_isLatin1_aae02_3 (by decide) (fun h => absurd h (by decide)) (fun _ => ?_)
  refine r_aload_n dJ0_isLatin1_aae02_6 rfl ?_
  refine r_strC (fd_in 1398 (by decide +kernel) (by decide +kernel)) hi dJ0_isLatin1_aae02_7 ?_
  refine r_if_ne 17 dJ0_isLatin1_aae02_10 (by decide) (fun h => absurd rfl h) (fun _ => ?_)
  refine r_iconst (v := 1) dJ0_isLatin1_aae02_13 rfl ?_
  refine r_goto (tgt := 18) dJ0_isLatin1_aae02_14 (by decide) ?_
  refine r_zret rfl (by decide) dJ0_isLatin1_aae02_18 ?_
  exact fd_isI rfl rfl rfl
theorem c_strLength (i : Nat) (hi : i < 7) : Con S α yJ0_length_8abf5 mJ0_length_8abf5 [.ref (α (1001 + i))] I L (fd_is (some (.int (nI (fd_len.getD i 0)))) I L) := by
  refine Con.of (by decide) rfl (Nat.le_of_ble_eq_true rfl) ?_
  have hl := wdL_ok i hi
  refine r_aload_n dJ0_length_8abf5_0 rfl ?_
  refine r_strV (fd_in 1397 (by decide +kernel) (by decide +kernel)) hi dJ0_length_8abf5_1 ?_
  refine r_strL hi dJ0_length_8abf5_4 ?_
  refine r_aload_n dJ0_length_8abf5_5 rfl ?_
  refine r_cTr (As := []) (c_strCoder α I L i hi) hi lk_RJ0_335 rfl (by decide) (by decide) rfl rfl (Nat.le_of_ble_eq_true rfl) dJ0_length_8abf5_6 ?_
  refine r_ishr dJ0_length_8abf5_9 ?_
  rw [show nI (fd_len.getD i 0) >>> ((0 : Int32) &&& 31) = nI (fd_len.getD i 0) from by
    have := nI_shr (n := fd_len.getD i 0) (k := 0) (by omega) (by decide)
    rw [Nat.pow_zero, Nat.div_one] at this
    exact this]
  refine r_iret rfl dJ0_length_8abf5_10 ?_
  exact fd_isI rfl rfl rfl
theorem c_pcCheck (a b : Nat) (hab : a < b) (hb : b < 2 ^ 31) (v : Value) (hv : v = .null ∨ ∃ t, v = .ref t) : Con S α yJ3_checkIndex_8e157 mJ3_checkIndex_8e157 [.int (nI a), .int (nI b), v] I L (fd_is (some (.int (nI a))) I L) := by
  rcases hv with rfl | ⟨t, rfl⟩
  · refine Con.of (by decide) rfl (Nat.le_of_ble_eq_true rfl) ?_
    refine r_iload_n dJ3_checkIndex_8e157_0 rfl ?_
    refine r_if_lt 9 dJ3_checkIndex_8e157_1 (by decide) (fun h => absurd h (nI_pos (by omega))) (fun _ => ?_)
    refine r_iload_n dJ3_checkIndex_8e157_4 rfl ?_
    refine r_iload_n dJ3_checkIndex_8e157_5 rfl ?_
    refine r_icmp_lt 16 dJ3_checkIndex_8e157_6 (by decide) (fun _ => ?_) (fun h => absurd ((nI_ltI (by omega) hb).mpr hab) h)
    refine r_iload_n dJ3_checkIndex_8e157_16 rfl ?_
    refine r_iret rfl dJ3_checkIndex_8e157_17 ?_
    exact fd_isI rfl rfl rfl
  · refine Con.of (by decide) rfl (Nat.le_of_ble_eq_true rfl) ?_
    refine r_iload_n dJ3_checkIndex_8e157_0 rfl ?_
    refine r_if_lt 9 dJ3_checkIndex_8e157_1 (by decide) (fun h => absurd h (nI_pos (by omega))) (fun _ => ?_)
    refine r_iload_n dJ3_checkIndex_8e157_4 rfl ?_
    refine r_iload_n dJ3_checkIndex_8e157_5 rfl ?_
    refine r_icmp_lt 16 dJ3_checkIndex_8e157_6 (by decide) (fun _ => ?_) (fun h => absurd ((nI_ltI (by omega) hb).mpr hab) h)
    refine r_iload_n dJ3_checkIndex_8e157_16 rfl ?_
    refine r_iret rfl dJ3_checkIndex_8e157_17 ?_
    exact fd_isI rfl rfl rfl
theorem c_strCheck (a b : Nat) (hab : a < b) (hb : b < 2 ^ 31) : Con S α yJ0_checkIndex_df160 mJ0_checkIndex_df160 [.int (nI a), .int (nI b)] I L (fd_is none I L) := by
  refine Con.of (by decide) rfl (Nat.le_of_ble_eq_true rfl) ?_
  refine r_iload_n dJ0_checkIndex_df160_0 rfl ?_
  refine r_iload_n dJ0_checkIndex_df160_1 rfl ?_
  refine r_sioobe (fd_in 532 (by decide +kernel) (by decide +kernel)) dJ0_checkIndex_df160_2 (fun v hv => ?_)
  refine r_cSr (As := [_, _, _]) (c_pcCheck α I L a b hab hb v hv) lk_RJ0_1059 (by decide) (by decide) rfl rfl (Nat.le_of_ble_eq_true rfl) dJ0_checkIndex_df160_5 ?_
  refine r_pop dJ0_checkIndex_df160_8 rfl ?_
  refine r_vret rfl dJ0_checkIndex_df160_9 ?_
  exact fd_isI rfl rfl rfl
theorem c_latCharAt (i : Nat) (hi : i < 7) (k : Nat) (hk : k < fd_len.getD i 0) : Con S α yJ1_charAt_3b067 mJ1_charAt_3b067 [.ref (α (1011 + i)), .int (nI k)] I L (fd_is (some (.int (wdC i k))) I L) := by
  refine Con.of (by decide) rfl (Nat.le_of_ble_eq_true rfl) ?_
  have hl := wdL_ok i hi
  have hc := wdC_ok i hi k hk
  refine r_iload_n dJ1_charAt_3b067_0 rfl ?_
  refine r_aload_n dJ1_charAt_3b067_1 rfl ?_
  refine r_strL hi dJ1_charAt_3b067_2 ?_
  refine r_cSn (As := [_, _]) (c_strCheck α I L k _ hk (by omega)) lk_RJ1_9 (by decide) (by decide) rfl rfl (Nat.le_of_ble_eq_true rfl) dJ1_charAt_3b067_3 ?_
  refine r_aload_n dJ1_charAt_3b067_6 rfl ?_
  refine r_iload_n dJ1_charAt_3b067_7 rfl ?_
  refine r_strB hi hk (by omega) dJ1_charAt_3b067_8 ?_
  refine r_sipush (v := 255) dJ1_charAt_3b067_9 rfl ?_
  refine r_iand dJ1_charAt_3b067_12 ?_
  refine r_i2c dJ1_charAt_3b067_13 hc.2 ?_
  refine r_nret rfl (wdC_nar hi hk) dJ1_charAt_3b067_14 ?_
  exact fd_isI rfl rfl rfl
theorem c_strCharAt (i : Nat) (hi : i < 7) (k : Nat) (hk : k < fd_len.getD i 0) : Con S α yJ0_charAt_5068e mJ0_charAt_5068e [.ref (α (1001 + i)), .int (nI k)] I L (fd_is (some (.int (wdC i k))) I L) := by
  refine Con.of (by decide) rfl (Nat.le_of_ble_eq_true rfl) ?_
  refine r_aload_n dJ0_charAt_5068e_0 rfl ?_
  refine r_cTr (As := []) (c_strLatin α I L i hi) hi lk_RJ0_492 rfl (by decide) (by decide) rfl rfl (Nat.le_of_ble_eq_true rfl) dJ0_charAt_5068e_1 ?_
  refine r_if_eq 16 dJ0_charAt_5068e_4 (by decide) (fun h => absurd h (by decide)) (fun _ => ?_)
  refine r_aload_n dJ0_charAt_5068e_7 rfl ?_
  refine r_strV (fd_in 1397 (by decide +kernel) (by decide +kernel)) hi dJ0_charAt_5068e_8 ?_
  refine r_iload_n dJ0_charAt_5068e_11 rfl ?_
  refine r_cSr (As := [_, _]) (c_latCharAt α I L i hi k hk) lk_RJ0_495 (by decide) (by decide) rfl rfl (Nat.le_of_ble_eq_true rfl) dJ0_charAt_5068e_12 ?_
  refine r_nret rfl (wdC_nar hi hk) dJ0_charAt_5068e_15 ?_
  exact fd_isI rfl rfl rfl
theorem c_X9_word (i : Nat) (hi : i < 7) : Con S α yX9_word mX9_word [.int (nI i)] I L (fd_is (some (.ref (α (1001 + i)))) I L) := by
  refine Con.of (by decide) rfl (Nat.le_of_ble_eq_true rfl) ?_
  refine r_iload_n dX9_word_0 rfl ?_
  rcases (show i = 0 ∨ i = 1 ∨ i = 2 ∨ i = 3 ∨ i = 4 ∨ i = 5 ∨ i = 6 by omega) with rfl | rfl | rfl | rfl | rfl | rfl | rfl
  · refine r_tswIn (tgt := 40) dX9_word_1 (by decide) (by decide) rfl (by decide) ?_
    refine r_ldcS (i := 0) rfl (by decide) dX9_word_40 ?_
    refine r_aret rfl dX9_word_42 ?_
    exact fd_isI rfl rfl rfl
  · refine r_tswIn (tgt := 43) dX9_word_1 (by decide) (by decide) rfl (by decide) ?_
    refine r_ldcS (i := 1) rfl (by decide) dX9_word_43 ?_
    refine r_aret rfl dX9_word_45 ?_
    exact fd_isI rfl rfl rfl
  · refine r_tswIn (tgt := 46) dX9_word_1 (by decide) (by decide) rfl (by decide) ?_
    refine r_ldcS (i := 2) rfl (by decide) dX9_word_46 ?_
    refine r_aret rfl dX9_word_48 ?_
    exact fd_isI rfl rfl rfl
  · refine r_tswIn (tgt := 49) dX9_word_1 (by decide) (by decide) rfl (by decide) ?_
    refine r_ldcS (i := 3) rfl (by decide) dX9_word_49 ?_
    refine r_aret rfl dX9_word_51 ?_
    exact fd_isI rfl rfl rfl
  · refine r_tswIn (tgt := 52) dX9_word_1 (by decide) (by decide) rfl (by decide) ?_
    refine r_ldcS (i := 4) rfl (by decide) dX9_word_52 ?_
    refine r_aret rfl dX9_word_54 ?_
    exact fd_isI rfl rfl rfl
  · refine r_tswIn (tgt := 55) dX9_word_1 (by decide) (by decide) rfl (by decide) ?_
    refine r_ldcS (i := 5) rfl (by decide) dX9_word_55 ?_
    refine r_aret rfl dX9_word_57 ?_
    exact fd_isI rfl rfl rfl
  · refine r_tswOut (tgt := 58) dX9_word_1 (Or.inr (by decide)) (by decide) ?_
    refine r_ldcS (i := 6) rfl (by decide) dX9_word_58 ?_
    refine r_aret rfl dX9_word_60 ?_
    exact fd_isI rfl rfl rfl
end STRM
