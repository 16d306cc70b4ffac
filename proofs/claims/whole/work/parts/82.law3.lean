/-! ===== the law: its loop ===== -/
section LAWL
variable {αX αM : Nat → Nat} {a n i : Nat} {xs : Nat → Int32} {s : pS} {b : Nat} {I J : fdI} {L M : fdL}
theorem i63 (x : Int32) : 0 ≤ (x &&& 63).toInt ∧ (x &&& 63).toInt < 64 := by
  have h : ∀ y : BitVec 32, 0 ≤ (y &&& 63#32).toInt ∧ (y &&& 63#32).toInt < 64 := by
    intro y
    have e : (y &&& 63#32).toNat ≤ 63 := by
      rw [BitVec.toNat_and]
      exact Nat.and_le_right
    rw [BitVec.toInt_eq_toNat_cond]
    split <;> omega
  exact h x.toBitVec
theorem law_sw (hi : i + 5 ≤ n) (hn : n ≤ 320) (h : lwR s b I L J M) (x : Int32) (next : ∀ (s' : pS) (b' : Nat) (I' : fdI) (L' : fdL) (J' : fdI) (M' : fdL), lwR s' b' I' L' J' M' → LR αX αM a n xs 1196 (lwV αX αM a i) [] I' L' J' M') : LR αX αM a n xs 32 (lwV αX αM a i) [.int (x &&& 63)] I L J M := by
  obtain ⟨g1, g2⟩ := i63 x
  generalize x &&& 63 = y at g1 g2 ⊢
  by_cases q : y.toInt < 40
  · rcases (show y.toInt = 0 ∨ y.toInt = 1 ∨ y.toInt = 2 ∨ y.toInt = 3 ∨ y.toInt = 4 ∨ y.toInt = 5 ∨ y.toInt = 6 ∨ y.toInt = 7 ∨ y.toInt = 8 ∨ y.toInt = 9 ∨ y.toInt = 10 ∨ y.toInt = 11 ∨ y.toInt = 12 ∨ y.toInt = 13 ∨ y.toInt = 14 ∨ y.toInt = 15 ∨ y.toInt = 16 ∨ y.toInt = 17 ∨ y.toInt = 18 ∨ y.toInt = 19 ∨ y.toInt = 20 ∨ y.toInt = 21 ∨ y.toInt = 22 ∨ y.toInt = 23 ∨ y.toInt = 24 ∨ y.toInt = 25 ∨ y.toInt = 26 ∨ y.toInt = 27 ∨ y.toInt = 28 ∨ y.toInt = 29 ∨ y.toInt = 30 ∨ y.toInt = 31 ∨ y.toInt = 32 ∨ y.toInt = 33 ∨ y.toInt = 34 ∨ y.toInt = 35 ∨ y.toInt = 36 ∨ y.toInt = 37 ∨ y.toInt = 38 ∨ y.toInt = 39 by omega) with z | z | z | z | z | z | z | z | z | z | z | z | z | z | z | z | z | z | z | z | z | z | z | z | z | z | z | z | z | z | z | z | z | z | z | z | z | z | z | z
    · exact L_tswIn (off := 176) (tgt := 208) dL_law_32 (by omega) (by omega) (by rw [z]; rfl) (by decide) (lc_0 hi hn h next)
    · exact L_tswIn (off := 199) (tgt := 231) dL_law_32 (by omega) (by omega) (by rw [z]; rfl) (by decide) (lc_1 hi hn h next)
    · exact L_tswIn (off := 232) (tgt := 264) dL_law_32 (by omega) (by omega) (by rw [z]; rfl) (by decide) (lc_2 hi hn h next)
    · exact L_tswIn (off := 301) (tgt := 333) dL_law_32 (by omega) (by omega) (by rw [z]; rfl) (by decide) (lc_3 hi hn h next)
    · exact L_tswIn (off := 334) (tgt := 366) dL_law_32 (by omega) (by omega) (by rw [z]; rfl) (by decide) (lc_4 hi hn h next)
    · exact L_tswIn (off := 367) (tgt := 399) dL_law_32 (by omega) (by omega) (by rw [z]; rfl) (by decide) (lc_5 hi hn h next)
    · exact L_tswIn (off := 400) (tgt := 432) dL_law_32 (by omega) (by omega) (by rw [z]; rfl) (by decide) (lc_6 hi hn h next)
    · exact L_tswIn (off := 423) (tgt := 455) dL_law_32 (by omega) (by omega) (by rw [z]; rfl) (by decide) (lc_7 hi hn h next)
    · exact L_tswIn (off := 446) (tgt := 478) dL_law_32 (by omega) (by omega) (by rw [z]; rfl) (by decide) (lc_8 hi hn h next)
    · exact L_tswIn (off := 469) (tgt := 501) dL_law_32 (by omega) (by omega) (by rw [z]; rfl) (by decide) (lc_9 hi hn h next)
    · exact L_tswIn (off := 482) (tgt := 514) dL_law_32 (by omega) (by omega) (by rw [z]; rfl) (by decide) (lc_10 hi hn h next)
    · exact L_tswIn (off := 495) (tgt := 527) dL_law_32 (by omega) (by omega) (by rw [z]; rfl) (by decide) (lc_11 hi hn h next)
    · exact L_tswIn (off := 518) (tgt := 550) dL_law_32 (by omega) (by omega) (by rw [z]; rfl) (by decide) (lc_12 hi hn h next)
    · exact L_tswIn (off := 541) (tgt := 573) dL_law_32 (by omega) (by omega) (by rw [z]; rfl) (by decide) (lc_13 hi hn h next)
    · exact L_tswIn (off := 564) (tgt := 596) dL_law_32 (by omega) (by omega) (by rw [z]; rfl) (by decide) (lc_14 hi hn h next)
    · exact L_tswIn (off := 587) (tgt := 619) dL_law_32 (by omega) (by omega) (by rw [z]; rfl) (by decide) (lc_15 hi hn h next)
    · exact L_tswIn (off := 610) (tgt := 642) dL_law_32 (by omega) (by omega) (by rw [z]; rfl) (by decide) (lc_16 hi hn h next)
    · exact L_tswIn (off := 633) (tgt := 665) dL_law_32 (by omega) (by omega) (by rw [z]; rfl) (by decide) (lc_17 hi hn h next)
    · exact L_tswIn (off := 656) (tgt := 688) dL_law_32 (by omega) (by omega) (by rw [z]; rfl) (by decide) (lc_18 hi hn h next)
    · exact L_tswIn (off := 679) (tgt := 711) dL_law_32 (by omega) (by omega) (by rw [z]; rfl) (by decide) (lc_19 hi hn h next)
    · exact L_tswIn (off := 702) (tgt := 734) dL_law_32 (by omega) (by omega) (by rw [z]; rfl) (by decide) (lc_20 hi hn h next)
    · exact L_tswIn (off := 725) (tgt := 757) dL_law_32 (by omega) (by omega) (by rw [z]; rfl) (by decide) (lc_21 hi hn h next)
    · exact L_tswIn (off := 738) (tgt := 770) dL_law_32 (by omega) (by omega) (by rw [z]; rfl) (by decide) (lc_22 hi hn h next)
    · exact L_tswIn (off := 751) (tgt := 783) dL_law_32 (by omega) (by omega) (by rw [z]; rfl) (by decide) (lc_23 hi hn h next)
    · exact L_tswIn (off := 784) (tgt := 816) dL_law_32 (by omega) (by omega) (by rw [z]; rfl) (by decide) (lc_24 hi hn h next)
    · exact L_tswIn (off := 817) (tgt := 849) dL_law_32 (by omega) (by omega) (by rw [z]; rfl) (by decide) (lc_25 hi hn h next)
    · exact L_tswIn (off := 840) (tgt := 872) dL_law_32 (by omega) (by omega) (by rw [z]; rfl) (by decide) (lc_26 hi hn h next)
    · exact L_tswIn (off := 883) (tgt := 915) dL_law_32 (by omega) (by omega) (by rw [z]; rfl) (by decide) (lc_27 hi hn h next)
    · exact L_tswIn (off := 906) (tgt := 938) dL_law_32 (by omega) (by omega) (by rw [z]; rfl) (by decide) (lc_28 hi hn h next)
    · exact L_tswIn (off := 929) (tgt := 961) dL_law_32 (by omega) (by omega) (by rw [z]; rfl) (by decide) (lc_29 hi hn h next)
    · exact L_tswIn (off := 962) (tgt := 994) dL_law_32 (by omega) (by omega) (by rw [z]; rfl) (by decide) (lc_30 hi hn h next)
    · exact L_tswIn (off := 985) (tgt := 1017) dL_law_32 (by omega) (by omega) (by rw [z]; rfl) (by decide) (lc_31 hi hn h next)
    · exact L_tswIn (off := 998) (tgt := 1030) dL_law_32 (by omega) (by omega) (by rw [z]; rfl) (by decide) (lc_32 hi hn h next)
    · exact L_tswIn (off := 1011) (tgt := 1043) dL_law_32 (by omega) (by omega) (by rw [z]; rfl) (by decide) (lc_33 hi hn h next)
    · exact L_tswIn (off := 1034) (tgt := 1066) dL_law_32 (by omega) (by omega) (by rw [z]; rfl) (by decide) (lc_34 hi hn h next)
    · exact L_tswIn (off := 1058) (tgt := 1090) dL_law_32 (by omega) (by omega) (by rw [z]; rfl) (by decide) (lc_35 hi hn h next)
    · exact L_tswIn (off := 1081) (tgt := 1113) dL_law_32 (by omega) (by omega) (by rw [z]; rfl) (by decide) (lc_36 hi hn h next)
    · exact L_tswIn (off := 1104) (tgt := 1136) dL_law_32 (by omega) (by omega) (by rw [z]; rfl) (by decide) (lc_37 hi hn h next)
    · exact L_tswIn (off := 1127) (tgt := 1159) dL_law_32 (by omega) (by omega) (by rw [z]; rfl) (by decide) (lc_38 hi hn h next)
    · exact L_tswIn (off := 1150) (tgt := 1182) dL_law_32 (by omega) (by omega) (by rw [z]; rfl) (by decide) (lc_39 hi hn h next)
  · exact L_tswOut (tgt := 1196) dL_law_32 (Or.inr (by omega)) (by decide) (next _ _ _ _ _ _ h)
theorem lw_sub5 (hn : n ≤ 320) : (nI n - 5).toInt = (n : Int) - 5 := by
  rw [Int32.toInt_sub, nI_toInt (by omega), show (5 : Int32).toInt = 5 from rfl]
  exact Int.bmod_eq_of_le (by omega) (by omega)
theorem law_loop (hn : n ≤ 320) : ∀ (m i : Nat), n ≤ i + m → i ≤ n + 4 → ∀ (s : pS) (b : Nat) (I : fdI) (L : fdL) (J : fdI) (M : fdL), lwR s b I L J M → LR αX αM a n xs 18 (lwV αX αM a i) [] I L J M := by
  intro m
  induction m with
  | zero =>
    intro i h1 h2 s b I L J M h
    refine L_iload_n dL_law_18 rfl ?_
    refine L_aload_n dL_law_19 rfl ?_
    refine L_slen dL_law_20 ?_
    refine L_iconst (v := 5) dL_law_21 (by decide) ?_
    refine L_isub dL_law_22 ?_
    refine L_icmp_gt 1202 dL_law_23 (by decide) (fun _ => ?_) (fun q => absurd ?_ q)
    · refine L_iconst (v := 1) dL_law_1202 (by decide) ?_
      exact L_ret dL_law_1203
    · rw [Int32.lt_iff_toInt_lt, lw_sub5 hn, nI_toInt (by omega)]
      omega
  | succ m ih =>
    intro i h1 h2 s b I L J M h
    refine L_iload_n dL_law_18 rfl ?_
    refine L_aload_n dL_law_19 rfl ?_
    refine L_slen dL_law_20 ?_
    refine L_iconst (v := 5) dL_law_21 (by decide) ?_
    refine L_isub dL_law_22 ?_
    refine L_icmp_gt 1202 dL_law_23 (by decide) (fun _ => ?_) (fun q => ?_)
    · refine L_iconst (v := 1) dL_law_1202 (by decide) ?_
      exact L_ret dL_law_1203
    · have hi : i + 5 ≤ n := by
        rw [Int32.lt_iff_toInt_lt, lw_sub5 hn, nI_toInt (by omega)] at q
        omega
      refine L_aload_n dL_law_26 rfl ?_
      refine L_iload_n dL_law_27 rfl ?_
      refine L_sld dL_law_28 (vp_in_nI (by omega) (by omega)) ?_
      refine L_bipush (v := 63) dL_law_29 (by decide) ?_
      refine L_iand dL_law_31 ?_
      refine law_sw hi hn h _ (fun s2 b2 I2 L2 J2 M2 h2 => ?_)
      refine L_iinc (v := nI (i + 5)) dL_law_1196 rfl (nI_add i 5) (by decide) rfl ?_
      refine L_goto (tgt := 18) dL_law_1199 (by decide) ?_
      exact L_keep [3, 2, 1, 0] rfl (ih (i + 5) (by omega) (by omega) s2 b2 I2 L2 J2 M2 h2)
end LAWL
