/-- YOUR PART: from the entry, for every script of at most 260 ints, the law comes to its end with true ('hflags': the launch's flags, for a law that throws: no stack traces) -/
theorem whole_start {p : Program} {e : Env} {s : State} {m : MethodId} {below : List Frame} {meth : Method} {c : Code} (l : Launch) (hflags : l.flags = flags0) {b L : Nat} {xs : Nat → Int32} (hL : L ≤ 260) (C0 : lw_At p s m meth c b L xs) : W p l e room_1 s m #[Value.ref b] below meth c s.heap [] 0 0 (lw_Z below #[Value.ref b] s) (entryFrame m ([Value.ref b] : List Value).toArray 6) := by
  obtain ⟨hx, hb, hr, hml, hown, hts, hX, hbl, hlocks, hgv⟩ := C0
  obtain ⟨D, z, q, hE⟩ := st_E hts hgv
  have hlt : l.stackTraces = false := by
    rw [Launch.stackTraces, hflags]; decide +kernel
  rw [lg_entry_eq]
  exact start0 (D := D) (z := z) (q := q) (b := b) (L := L) (xs := xs) ⟨hx, hb, hml, hown, fun w hw => hts w (wsL_law_in w hw), hX, hbl, hE, hlt, hL, hr, hlocks⟩ (lv_entry [Value.ref b] (Nat.le_of_ble_eq_true rfl))
