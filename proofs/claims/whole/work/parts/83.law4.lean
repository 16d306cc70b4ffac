/-! ===== the law: what the tables and the start give ===== -/
abbrev lwG0 : Cond := Jvm.Cond.and given_1 narrow_1
abbrev lwS (i : Nat) : Term := .string RX9 (75 + 2 * i)
section LAWT
variable {s : State} {b : Nat}
theorem lt_ex (ht : ∀ w ∈ lw_tbl, w.before #[Value.ref b] s = true) (hg : ∀ w ∈ flatC lwG0, w.before #[Value.ref b] s = true) : ∀ i : Nat, i < 7 → (Cond.exactly (lwS i) "java/lang/String").before #[Value.ref b] s = true := by
  intro i hi
  rcases (show i = 0 ∨ i = 1 ∨ i = 2 ∨ i = 3 ∨ i = 4 ∨ i = 5 ∨ i = 6 by omega) with rfl | rfl | rfl | rfl | rfl | rfl | rfl
  · exact hg _ (by decide +kernel)
  · exact hg _ (by decide +kernel)
  · exact hg _ (by decide +kernel)
  · exact hg _ (by decide +kernel)
  · exact hg _ (by decide +kernel)
  · exact hg _ (by decide +kernel)
  · exact hg _ (by decide +kernel)
theorem lt_co (ht : ∀ w ∈ lw_tbl, w.before #[Value.ref b] s = true) (hg : ∀ w ∈ flatC lwG0, w.before #[Value.ref b] s = true) : ∀ i : Nat, i < 7 → (Cond.eq (.field (lwS i) "java/lang/String" "coder" "B") (.int 0)).before #[Value.ref b] s = true := by
  intro i hi
  rcases (show i = 0 ∨ i = 1 ∨ i = 2 ∨ i = 3 ∨ i = 4 ∨ i = 5 ∨ i = 6 by omega) with rfl | rfl | rfl | rfl | rfl | rfl | rfl
  · exact hg _ (by decide +kernel)
  · exact hg _ (by decide +kernel)
  · exact hg _ (by decide +kernel)
  · exact hg _ (by decide +kernel)
  · exact hg _ (by decide +kernel)
  · exact hg _ (by decide +kernel)
  · exact hg _ (by decide +kernel)
theorem lt_ar (ht : ∀ w ∈ lw_tbl, w.before #[Value.ref b] s = true) (hg : ∀ w ∈ flatC lwG0, w.before #[Value.ref b] s = true) : ∀ i : Nat, i < 7 → (Cond.arrayOf (.field (lwS i) "java/lang/String" "value" "[B") .byte).before #[Value.ref b] s = true := by
  intro i hi
  rcases (show i = 0 ∨ i = 1 ∨ i = 2 ∨ i = 3 ∨ i = 4 ∨ i = 5 ∨ i = 6 by omega) with rfl | rfl | rfl | rfl | rfl | rfl | rfl
  · exact hg _ (by decide +kernel)
  · exact hg _ (by decide +kernel)
  · exact hg _ (by decide +kernel)
  · exact hg _ (by decide +kernel)
  · exact hg _ (by decide +kernel)
  · exact hg _ (by decide +kernel)
  · exact hg _ (by decide +kernel)
theorem lt_le (ht : ∀ w ∈ lw_tbl, w.before #[Value.ref b] s = true) (hg : ∀ w ∈ flatC lwG0, w.before #[Value.ref b] s = true) : ∀ i : Nat, i < 7 → (Cond.eq (.length (.field (lwS i) "java/lang/String" "value" "[B")) (.int (Int32.ofNat (fd_len.getD i 0)))).before #[Value.ref b] s = true := by
  intro i hi
  rcases (show i = 0 ∨ i = 1 ∨ i = 2 ∨ i = 3 ∨ i = 4 ∨ i = 5 ∨ i = 6 by omega) with rfl | rfl | rfl | rfl | rfl | rfl | rfl
  · exact hg _ (by decide +kernel)
  · exact hg _ (by decide +kernel)
  · exact hg _ (by decide +kernel)
  · exact hg _ (by decide +kernel)
  · exact hg _ (by decide +kernel)
  · exact hg _ (by decide +kernel)
  · exact hg _ (by decide +kernel)
theorem lt_ck : ∀ i : Nat, i < 7 → ∀ j : Nat, j < fd_len.getD i 0 → (Cond.eq (.elem (.field (lwS i) "java/lang/String" "value" "[B") (.int (Int32.ofNat j))) (.int ((fd_byt.getD i []).getD j 0))) ∈ flatC lwG0 := by decide +kernel
theorem lt_nk : ∀ i : Nat, i < 7 → ∀ j : Nat, j < 7 → i ≠ j → (Cond.not (Cond.eq (lwS i) (lwS j))) ∈ flatC lwG0 ∨ (Cond.not (Cond.eq (lwS j) (lwS i))) ∈ flatC lwG0 := by decide +kernel
theorem lt_fk : ∀ j : Nat, j < 8 → (Cond.eq (.elem (.static RX10 "ORDERS_OF" "[I") (.int (Int32.ofNat j))) (.int (fd_facts.getD j 0))) ∈ flatC lwG0 := by decide +kernel
theorem lt_sr (ht : ∀ w ∈ lw_tbl, w.before #[Value.ref b] s = true) (hg : ∀ w ∈ flatC lwG0, w.before #[Value.ref b] s = true) : ∀ i : Nat, i < 7 → (Cond.stringRef RX9 (75 + 2 * i) (fd_words.getD i "")).before #[Value.ref b] s = true := by
  intro i hi
  rcases (show i = 0 ∨ i = 1 ∨ i = 2 ∨ i = 3 ∨ i = 4 ∨ i = 5 ∨ i = 6 by omega) with rfl | rfl | rfl | rfl | rfl | rfl | rfl
  · exact (ht _ (List.mem_of_getElem? (i := 497) (by decide +kernel)))
  · exact (ht _ (List.mem_of_getElem? (i := 498) (by decide +kernel)))
  · exact (ht _ (List.mem_of_getElem? (i := 499) (by decide +kernel)))
  · exact (ht _ (List.mem_of_getElem? (i := 500) (by decide +kernel)))
  · exact (ht _ (List.mem_of_getElem? (i := 501) (by decide +kernel)))
  · exact (ht _ (List.mem_of_getElem? (i := 502) (by decide +kernel)))
  · exact (ht _ (List.mem_of_getElem? (i := 503) (by decide +kernel)))
theorem lt_PF (ht : ∀ w ∈ lw_tbl, w.before #[Value.ref b] s = true) (hg : ∀ w ∈ flatC lwG0, w.before #[Value.ref b] s = true) : ∃ ρ : Nat → Nat, fd_PF ρ (fun q => s.heap.size ≤ q) s s.heap := by
  have hA : ∀ a : Nat, a < s.heap.size → ¬ (fun q => s.heap.size ≤ q) a := fun a h => Nat.not_le.mpr h
  obtain ⟨o, ho, hT⟩ := va_Tof (args := #[Value.ref b]) (s := s) (tm := .static RX10 "ORDERS_OF" "[I") (ty := .int) (N := 8) (f := fun j => .int (fd_facts.getD j 0)) (by decide) (hg _ (by decide +kernel)) (va_eqt (hg _ (by decide +kernel))) (fun j hj => va_eqt (hg _ (lt_fk j hj))) hA
  obtain ⟨k, v, hS, hk⟩ := vk_Sof (args := #[Value.ref b]) (s := s) (N := 7) (tm := lwS) (len := fd_len) (byt := fd_byt) (by decide) (lt_ex ht hg) (lt_co ht hg) (lt_ar ht hg) (lt_le ht hg) (fun i hi j hj => hg _ (lt_ck i hi j hj)) (fun i j hi hj e => (lt_nk i hi j hj e).elim (fun h => Or.inl (hg _ h)) (fun h => Or.inr (hg _ h))) hA
  obtain ⟨ρ, r0, r1, r2⟩ : ∃ ρ : Nat → Nat, ρ 1000 = o ∧ (∀ i, i < 7 → ρ (1001 + i) = k i) ∧ ∀ i, ρ (1011 + i) = v i := by
    refine ⟨fun q => if q = 1000 then o else if q < 1011 then k (q - 1001) else v (q - 1011), if_pos rfl, fun i hi => ?_, fun i => ?_⟩
    · show (if 1001 + i = 1000 then o else if 1001 + i < 1011 then k (1001 + i - 1001) else v (1001 + i - 1011)) = k i
      rw [if_neg (by omega), if_pos (by omega), Nat.add_sub_cancel_left]
    · show (if 1011 + i = 1000 then o else if 1011 + i < 1011 then k (1011 + i - 1001) else v (1011 + i - 1011)) = v i
      rw [if_neg (by omega), if_neg (by omega), Nat.add_sub_cancel_left]
  refine ⟨ρ, ?_⟩
  have e2 : (fun i => ρ (1011 + i)) = v := funext r2
  unfold fd_PF
  rw [r0, e2]
  refine ⟨va_Zof (ht _ (List.mem_of_getElem? (i := 461) (by decide +kernel))) (ht _ (List.mem_of_getElem? (i := 61) (by decide +kernel))) ho hA, hT, ⟨fun i hi => ?_, fun i j hi hj e => hS.2 i j hi hj (by rw [← r1 i hi, ← r1 j hj]; exact e)⟩, fun i hi => ?_, va_Zof (ht _ (List.mem_of_getElem? (i := 517) (by decide +kernel))) (ht _ (List.mem_of_getElem? (i := 73) (by decide +kernel))) (va_eqi (hg _ (by decide +kernel))) hA, va_Zqof (ht _ (List.mem_of_getElem? (i := 533) (by decide +kernel))) (ht _ (List.mem_of_getElem? (i := 75) (by decide +kernel))) (hg _ (by decide +kernel)) hA, fun w hw => ?_⟩
  · have h := hS.1 i hi
    rw [← r1 i hi] at h
    exact h
  · rw [r1 i hi]
    exact vk_R.of (lt_sr ht hg i hi) (hk i hi)
  · simp only [fd_nest, List.mem_cons, List.not_mem_nil, or_false] at hw
    rcases hw with rfl | rfl | rfl
    · exact va_Nw.of rfl (ht _ (List.mem_of_getElem? (i := 393) (by decide +kernel)))
    · exact va_Nw.of rfl (ht _ (List.mem_of_getElem? (i := 460) (by decide +kernel)))
    · exact va_Nw.of rfl (ht _ (List.mem_of_getElem? (i := 658) (by decide +kernel)))
end LAWT
