/-! ===== the start: the environment ===== -/
abbrev FL0 : List Cond := flatC (Jvm.Cond.and given_1 narrow_1)
abbrev tmF : Term := .static RX6 "FINGER_OF_COLUMN" "[I"
set_option maxRecDepth 100000 in
theorem fl_T : ∀ t ∈ textL, Cond.exactly (.string RX6 t.1) "java/lang/String" ∈ FL0 := by decide +kernel
set_option maxRecDepth 100000 in
theorem fl_N : ∀ w ∈ ncL, Cond.not (.castable w.1 w.2) ∈ FL0 := by decide +kernel
set_option maxRecDepth 100000 in
theorem fl_E : ∀ j, j < 10 → Cond.eq (.elem tmF (.int (Int32.ofNat j))) (.int (fingT j)) ∈ FL0 := by decide +kernel
set_option maxRecDepth 100000 in
theorem fl_L : Cond.eq (.length tmF) (.int (Int32.ofNat 10)) ∈ FL0 := by decide +kernel
set_option maxRecDepth 100000 in
theorem fl_A : Cond.arrayOf tmF .int ∈ FL0 := by decide +kernel
set_option maxRecDepth 100000 in
theorem fl_1 : Cond.isRef (.static Bundle.tN "UNASSIGNED_STACK" Bundle.steD) ∈ FL0 := by decide +kernel
set_option maxRecDepth 100000 in
theorem fl_2 : Cond.isRef (.static Bundle.tN "SUPPRESSED_SENTINEL" Bundle.listD) ∈ FL0 := by decide +kernel
set_option maxRecDepth 100000 in
theorem st_E {s : State} {b : Nat} (hts : ∀ w ∈ lw_tbl, w.before #[Value.ref b] s = true) (hgv : (Jvm.Cond.and given_1 narrow_1).before #[Value.ref b] s = true) : ∃ (D : va_G) (z : Nat → ClassId) (q : Nat → Nat), EV D z q (fun x : Nat => s.heap.size ≤ x) s s.heap := by
  obtain ⟨D, z, hK⟩ := st_K hts
  have hg := flat_of_before _ hgv
  have hA : ∀ a : Nat, a < s.heap.size → ¬ (fun x : Nat => s.heap.size ≤ x) a := fun a h => Nat.not_le_of_lt h
  obtain ⟨t, ht, hT⟩ := va_Tof (A := fun x : Nat => s.heap.size ≤ x) (N := 10) (f := fun j => .int (fingT j)) (by omega) (hg _ fl_A) (va_eqt (hg _ fl_L)) (fun j hj => va_eqt (hg _ (fl_E j hj))) hA
  have hZ := va_Zref (A := fun x : Nat => s.heap.size ≤ x) (hts (.laysStatic RX6 "FINGER_OF_COLUMN" "[I") (List.mem_of_getElem? (i := 428) (by decide +kernel))) (hts (.initialized RX6) (List.mem_of_getElem? (i := 9) (by decide +kernel))) ht hA
  let q : Nat → Nat := fun k => if k = 0 then t else match (Term.string RX6 k).eval #[] s none [] s with
    | some (.ref a) => a
    | _ => 0
  refine ⟨D, z, q, hK, ⟨fun w hw => va_Nw.of rfl (hts _ (st_F _ (List.mem_map_of_mem hw))), fun w hw => va_Nw.of rfl (hts _ (st_M _ (List.mem_map_of_mem hw))), va_Nw.of rfl (hts (.fieldLinkNest RX0 33 RX6 "FINGER_OF_COLUMN" "[I" RX6) (List.mem_of_getElem? (i := 427) (by decide +kernel)))⟩,
    ⟨vx_Zqof (hts (.laysStatic Bundle.tN "UNASSIGNED_STACK" Bundle.steD) (List.mem_of_getElem? (i := 239) (by decide +kernel))) (hts (.initialized Bundle.tN) (List.mem_of_getElem? (i := 18) (by decide +kernel))) (hg _ fl_1) hA, vx_Zqof (hts (.laysStatic Bundle.tN "SUPPRESSED_SENTINEL" Bundle.listD) (List.mem_of_getElem? (i := 241) (by decide +kernel))) (hts (.initialized Bundle.tN) (List.mem_of_getElem? (i := 18) (by decide +kernel))) (hg _ fl_2) hA⟩,
    ⟨hZ, hT⟩, fun x hx => ?_, fun X hX => va_Nw.of rfl (hts _ (st_C _ (List.mem_map_of_mem hX))), fun w hw => va_Nc.of (hg _ (fl_N w hw)), fun Y hY => va_Nw.of rfl (hts _ (st_D _ (List.mem_map_of_mem hY)))⟩
  have h0 : x.1 ≠ 0 := by
    have : ∀ y ∈ textL, y.1 ≠ 0 := by decide
    exact this x hx
  obtain ⟨a, _, _, _, ha, -⟩ := Cond.exactly_spec (hg _ (fl_T x hx))
  have hq : q x.1 = a := by
    have ha2 : (Term.string RX6 x.1).eval #[] s none [] s = some (.ref a) := ha
    show (if x.1 = 0 then t else match (Term.string RX6 x.1).eval #[] s none [] s with | some (.ref a) => a | _ => 0) = a
    rw [if_neg h0, ha2]
  refine vk_R.of (A := #[Value.ref b]) (hts _ (st_T _ (List.mem_map_of_mem (f := fun t => Cond.stringRef RX6 t.1 t.2) hx))) ?_
  rw [hq]; exact ha
