/-! ===== the start: what the tables and the statics give ===== -/
set_option maxRecDepth 20000 in
theorem st_F : ∀ w ∈ nestF.map (fun w => Cond.fieldLinkNest RX6 w.1 w.2.1 w.2.2.1 w.2.2.2 RX6), w ∈ lw_tbl := mem_r _ [123, 125, 127, 75, 77, 79, 82, 84, 153, 151] (by decide +kernel)
set_option maxRecDepth 20000 in
theorem st_M : ∀ w ∈ nestM.map (fun w => Cond.methodLinkNest RX6 w.1 w.2 RX6), w ∈ lw_tbl := mem_r _ [68, 114, 144] (by decide +kernel)
set_option maxRecDepth 20000 in
theorem st_T : ∀ w ∈ textL.map (fun t => Cond.stringRef RX6 t.1 t.2), w ∈ lw_tbl := mem_r _ [331, 518, 375, 437, 450, 595, 590, 504, 623, 253, 369, 280, 306] (by decide +kernel)
set_option maxRecDepth 20000 in
theorem st_C : ∀ w ∈ excL.map (fun X => Cond.castable X X), w ∈ lw_tbl := mem_r _ [214, 324, 299] (by decide +kernel)
set_option maxRecDepth 20000 in
theorem st_D : ∀ w ∈ supL.map (fun Y => Cond.declares (Bundle.initS Y)), w ∈ lw_tbl := mem_r _ [216, 218, 220] (by decide +kernel)
theorem arr_of {s : State} {A : Array Value} {ty : FieldType} (ho : ∀ C : String, ty ≠ .object C) (h : (Cond.arrayClass ty).before A s = true) : ∃ cA, ArrOfT s cA ty ∧ va_RA s cA ty := by
  obtain ⟨cA, kA, comp, hfind, hk, hkind⟩ := Cond.arrayClass_spec h
  refine ⟨cA, fun n z => ⟨fun k h => (by cases h), kA, hk, comp, hkind⟩, ?_⟩
  cases ty <;> first | exact hfind | exact absurd rfl (ho _)
set_option maxRecDepth 100000 in
theorem st_K {s : State} {b : Nat} (hts : ∀ w ∈ lw_tbl, w.before #[Value.ref b] s = true) : ∃ (D : va_G) (z : Nat → ClassId), va_K D vwCl (TY z) s := by
  obtain ⟨c0, i0, k0⟩ := u_known hts inX0 (hts (.instantiable RX0 2) (List.mem_of_getElem? (i := 33) (by decide +kernel)))
  obtain ⟨c1, i1, k1⟩ := u_known hts inX1 (hts (.instantiable RX1 1) (List.mem_of_getElem? (i := 39) (by decide +kernel)))
  obtain ⟨c2, i2, k2⟩ := u_known hts inX2 (hts (.instantiable RX2 6) (List.mem_of_getElem? (i := 67) (by decide +kernel)))
  obtain ⟨c3, i3, k3⟩ := u_known hts inX3 (hts (.instantiable RX3 6) (List.mem_of_getElem? (i := 113) (by decide +kernel)))
  obtain ⟨c4, i4, k4⟩ := u_known hts inX4 (hts (.instantiable RX4 2) (List.mem_of_getElem? (i := 99) (by decide +kernel)))
  obtain ⟨c5, i5, k5⟩ := u_known hts inX5 (hts (.instantiable RX5 2) (List.mem_of_getElem? (i := 143) (by decide +kernel)))
  obtain ⟨c6, i6, k6⟩ := u_known hts inX6 (hts (.instantiable RX6 8) (List.mem_of_getElem? (i := 25) (by decide +kernel)))
  obtain ⟨z0, a0, r0⟩ := arr_of (fun C h => by cases h) (hts (.arrayClass .int) (List.mem_of_getElem? (i := 54) (by decide +kernel)))
  obtain ⟨z1, a1, r1⟩ := arr_of (fun C h => by cases h) (hts (.arrayClass .boolean) (List.mem_of_getElem? (i := 111) (by decide +kernel)))
  refine ⟨(fun n => ([c0, c1, c2, c3, c4, c5, c6] : List ClassId).getD n c0, fun n => ([i0, i1, i2, i3, i4, i5, i6] : List (Nat → Nat)).getD n i0), fun n => ([z0, z1] : List ClassId).getD n z0, fun n q hq => ?_, fun n q hq => ?_⟩
  · rcases n with _ | _ | _ | _ | _ | _ | _ | n
    · cases hq; exact k0
    · cases hq; exact k1
    · cases hq; exact k2
    · cases hq; exact k3
    · cases hq; exact k4
    · cases hq; exact k5
    · cases hq; exact k6
    · cases hq
  · rcases n with _ | _ | n
    · cases hq; exact ⟨a0, r0⟩
    · cases hq; exact ⟨a1, r1⟩
    · cases hq
