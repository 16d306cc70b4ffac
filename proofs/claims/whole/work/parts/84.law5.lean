/-! ===== the law: the classes, by the tables ===== -/
section LAWK
variable {s : State} {b : Nat}
theorem lt_kN (ht : ∀ w ∈ lw_tbl, w.before #[Value.ref b] s = true) : kN s := by
  refine ⟨?_, kAO.of (ht _ (List.mem_of_getElem? (i := 88) (by decide +kernel))), kAO.of (ht _ (List.mem_of_getElem? (i := 169) (by decide +kernel))), kAO.of (ht _ (List.mem_of_getElem? (i := 260) (by decide +kernel)))⟩
  intro w hw
  simp only [k_nest, List.mem_cons, List.not_mem_nil, or_false] at hw
  rcases hw with rfl | rfl | rfl | rfl | rfl | rfl | rfl | rfl | rfl | rfl | rfl | rfl | rfl | rfl | rfl | rfl | rfl | rfl | rfl
  · exact va_Nw.of rfl (ht _ (List.mem_of_getElem? (i := 172) (by decide +kernel)))
  · exact va_Nw.of rfl (ht _ (List.mem_of_getElem? (i := 208) (by decide +kernel)))
  · exact va_Nw.of rfl (ht _ (List.mem_of_getElem? (i := 255) (by decide +kernel)))
  · exact va_Nw.of rfl (ht _ (List.mem_of_getElem? (i := 281) (by decide +kernel)))
  · exact va_Nw.of rfl (ht _ (List.mem_of_getElem? (i := 288) (by decide +kernel)))
  · exact va_Nw.of rfl (ht _ (List.mem_of_getElem? (i := 291) (by decide +kernel)))
  · exact va_Nw.of rfl (ht _ (List.mem_of_getElem? (i := 295) (by decide +kernel)))
  · exact va_Nw.of rfl (ht _ (List.mem_of_getElem? (i := 298) (by decide +kernel)))
  · exact va_Nw.of rfl (ht _ (List.mem_of_getElem? (i := 302) (by decide +kernel)))
  · exact va_Nw.of rfl (ht _ (List.mem_of_getElem? (i := 305) (by decide +kernel)))
  · exact va_Nw.of rfl (ht _ (List.mem_of_getElem? (i := 309) (by decide +kernel)))
  · exact va_Nw.of rfl (ht _ (List.mem_of_getElem? (i := 312) (by decide +kernel)))
  · exact va_Nw.of rfl (ht _ (List.mem_of_getElem? (i := 316) (by decide +kernel)))
  · exact va_Nw.of rfl (ht _ (List.mem_of_getElem? (i := 319) (by decide +kernel)))
  · exact va_Nw.of rfl (ht _ (List.mem_of_getElem? (i := 1392) (by decide +kernel)))
  · exact va_Nw.of rfl (ht _ (List.mem_of_getElem? (i := 1393) (by decide +kernel)))
  · exact va_Nw.of rfl (ht _ (List.mem_of_getElem? (i := 1394) (by decide +kernel)))
  · exact va_Nw.of rfl (ht _ (List.mem_of_getElem? (i := 1395) (by decide +kernel)))
  · exact va_Nw.of rfl (ht _ (List.mem_of_getElem? (i := 1396) (by decide +kernel)))
theorem lt_tb (ht : ∀ w ∈ lw_tbl, w.before #[Value.ref b] s = true) : ∀ w ∈ fd_tb, w.before #[Value.ref b] s = true := fun w hw => ht w (List.mem_filter.mp hw).1
theorem lt_prim {ty : FieldType} (h : (Cond.arrayClass ty).before #[Value.ref b] s = true) : ∃ cA : ClassId, ArrOfT s cA ty ∧ s.vm.findClass ("[" ++ ty.toString) = some cA := by
  obtain ⟨c, k, cc, h1, h2, h3⟩ := Cond.arrayClass_spec h
  exact ⟨c, fun N z => ⟨(fun k h => by cases h), k, h2, cc, h3⟩, h1⟩
theorem lt_obj {C : String} (h : (Cond.arrayOver (.object C)).before #[Value.ref b] s = true) : ∃ cA : ClassId, ArrOfT s cA (.object C) ∧ va_RA s cA (.object C) := by
  obtain ⟨comp, c, k, h1, h2, h3, h4, h5⟩ := Cond.arrayOver_spec h
  exact ⟨c, fun N z => ⟨(fun k h => by cases h), k, h3, comp, h4⟩, k, comp, h3, h4, h1, h5⟩
theorem lt_arr (h : (Cond.arrayOver (.array .int)).before #[Value.ref b] s = true) : ∃ cA : ClassId, ArrOfT s cA (.array .int) ∧ va_RA s cA (.array .int) := by
  obtain ⟨comp, c, k, h1, h2, h3, h4⟩ := Cond.arrayOver_specA h
  exact ⟨c, fun N z => ⟨(fun k h => by cases h), k, h2, comp, h3⟩, h4⟩
theorem lt_K (ht : ∀ w ∈ lw_tbl, w.before #[Value.ref b] s = true) : ∃ (dC : Nat → ClassId) (dI : Nat → Nat → Nat) (dA : Nat → ClassId), va_K (dC, dI) vwCl (fd_tys dA) s := by
  obtain ⟨c0, i0, k0⟩ := u_known (C := RX0) (T := TX0) (N := 0) (n := 0) (lt_tb ht) (fd_okA 0 _ rfl).1 (ht _ (List.mem_of_getElem? (i := 301) (by decide +kernel)))
  obtain ⟨c1, i1, k1⟩ := u_known (C := RX1) (T := TX1) (N := 0) (n := 0) (lt_tb ht) (fd_okA 1 _ rfl).1 (ht _ (List.mem_of_getElem? (i := 287) (by decide +kernel)))
  obtain ⟨c2, i2, k2⟩ := u_known (C := RX2) (T := TX2) (N := 11) (n := 11) (lt_tb ht) (fd_okA 2 _ rfl).1 (ht _ (List.mem_of_getElem? (i := 207) (by decide +kernel)))
  obtain ⟨c3, i3, k3⟩ := u_known (C := RX3) (T := TX3) (N := 0) (n := 0) (lt_tb ht) (fd_okA 3 _ rfl).1 (ht _ (List.mem_of_getElem? (i := 315) (by decide +kernel)))
  obtain ⟨c4, i4, k4⟩ := u_known (C := RX4) (T := TX4) (N := 0) (n := 0) (lt_tb ht) (fd_okA 4 _ rfl).1 (ht _ (List.mem_of_getElem? (i := 294) (by decide +kernel)))
  obtain ⟨c5, i5, k5⟩ := u_known (C := RX5) (T := TX5) (N := 17) (n := 17) (lt_tb ht) (fd_okA 5 _ rfl).1 (ht _ (List.mem_of_getElem? (i := 90) (by decide +kernel)))
  obtain ⟨c6, i6, k6⟩ := u_known (C := RX6) (T := TX6) (N := 5) (n := 5) (lt_tb ht) (fd_okA 6 _ rfl).1 (ht _ (List.mem_of_getElem? (i := 254) (by decide +kernel)))
  obtain ⟨c7, i7, k7⟩ := u_known (C := RX7) (T := TX7) (N := 0) (n := 0) (lt_tb ht) (fd_okA 7 _ rfl).1 (ht _ (List.mem_of_getElem? (i := 280) (by decide +kernel)))
  obtain ⟨c8, i8, k8⟩ := u_known (C := RX8) (T := TX8) (N := 0) (n := 0) (lt_tb ht) (fd_okA 8 _ rfl).1 (ht _ (List.mem_of_getElem? (i := 308) (by decide +kernel)))
  obtain ⟨c9, i9, k9⟩ := u_known (C := RX9) (T := TX9) (N := 8) (n := 8) (lt_tb ht) (fd_okA 9 _ rfl).1 (ht _ (List.mem_of_getElem? (i := 171) (by decide +kernel)))
  obtain ⟨c10, i10, k10⟩ := u_known (C := RX10) (T := TX10) (N := 13) (n := 13) (lt_tb ht) (fd_okA 10 _ rfl).1 (ht _ (List.mem_of_getElem? (i := 80) (by decide +kernel)))
  obtain ⟨c11, i11, k11⟩ := u_known (C := RX11) (T := TX11) (N := 39) (n := 39) (lt_tb ht) (fd_okA 11 _ rfl).1 (ht _ (List.mem_of_getElem? (i := 925) (by decide +kernel)))
  obtain ⟨a0, p0, q0⟩ := lt_prim (ty := .int) (ht _ (List.mem_of_getElem? (i := 168) (by decide +kernel)))
  obtain ⟨a1, p1, q1⟩ := lt_prim (ty := .boolean) (ht _ (List.mem_of_getElem? (i := 204) (by decide +kernel)))
  obtain ⟨a2, p2, q2⟩ := lt_prim (ty := .byte) (ht _ (List.mem_of_getElem? (i := 205) (by decide +kernel)))
  obtain ⟨a3, p3, q3⟩ := lt_obj (C := "ShuffledDays$PlainDay") (ht _ (List.mem_of_getElem? (i := 88) (by decide +kernel)))
  obtain ⟨a4, p4, q4⟩ := lt_obj (C := "ShuffledDays$Life") (ht _ (List.mem_of_getElem? (i := 169) (by decide +kernel)))
  obtain ⟨a5, p5, q5⟩ := lt_arr (ht _ (List.mem_of_getElem? (i := 260) (by decide +kernel)))
  refine ⟨fun k => [c0, c1, c2, c3, c4, c5, c6, c7, c8, c9, c10, c11].getD k 0, fun k => ([i0, i1, i2, i3, i4, i5, i6, i7, i8, i9, i10, i11] : List (Nat → Nat)).getD k (fun _ => 0), fun k => [a0, a1, a2, a3, a4, a5].getD k 0, fun c q hq => ?_, fun c q hq => ?_⟩
  · match c, hq with
    | 0, hq => cases hq; exact k0
    | 1, hq => cases hq; exact k1
    | 2, hq => cases hq; exact k2
    | 3, hq => cases hq; exact k3
    | 4, hq => cases hq; exact k4
    | 5, hq => cases hq; exact k5
    | 6, hq => cases hq; exact k6
    | 7, hq => cases hq; exact k7
    | 8, hq => cases hq; exact k8
    | 9, hq => cases hq; exact k9
    | 10, hq => cases hq; exact k10
    | 11, hq => cases hq; exact k11
    | c + 12, hq => simp [vwCl] at hq
  · match c, hq with
    | 0, hq => cases hq; exact ⟨p0, q0⟩
    | 1, hq => cases hq; exact ⟨p1, q1⟩
    | 2, hq => cases hq; exact ⟨p2, q2⟩
    | 3, hq => cases hq; exact ⟨p3, q3⟩
    | 4, hq => cases hq; exact ⟨p4, q4⟩
    | 5, hq => cases hq; exact ⟨p5, q5⟩
    | c + 6, hq => simp [fd_tys] at hq
end LAWK
