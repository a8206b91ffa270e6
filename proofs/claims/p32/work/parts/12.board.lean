/-! ===== Cells and Board ===== -/
set_option maxRecDepth 20000 in
theorem in_X1_at_X1 : ∀ w ∈ wsX10, w ∈ wsX1_at := mem_r _ [2] (by decide +kernel)
theorem hd_X1_at : yX1_at.cls = RX1 ∧ yX1_at.cls ≠ "java/lang/invoke/MethodHandle" ∧ yX1_at.cls ≠ "java/lang/invoke/VarHandle" ∧ (parseMethodDescriptor yX1_at.desc).map (fun d => d.parameters.length) = some 1 := by decide +kernel
set_option maxHeartbeats 4000000 in
set_option maxRecDepth 100000 in
theorem c_X1_at (l : Launch) (D : va_G) (z : Nat → ClassId) (q : Nat → Nat) (h : Nat) (v : Nat) (n : Nat) (f : Nat → Int32) (i : Int32) (hn : n < 2 ^ 31) : RD l yX1_at wsX1_at ({ frames := 0, cells := 0, slots := 0, locals := 0 } : Room) D z q [.ref h, .int i] [(h, .inr (1, [.ref v])), (v, .inl (z 0, n, .inl f))] (some (.int (cAt n f i))) := by
  refine RD_mk (cc := cX1_at) (maxL := 2) (ret := (some .int)) (by decide) rfl (Nat.le_of_ble_eq_true rfl) ?_
  intro p e s m below meth c hx hb hr hml hts hown hlocks hP hE hS hA ls hl
  have hK := hE.1
  have hown : s.vm.findClass RX1 = some m.cls := hown
  have hl : lv_has ls 2 [(0, .ref h), (1, .int i)] := hl
  refine lv_iload_n hx hb dX1_at_0 rfl (lv_at hl 1 rfl) ?_
  refine lv_if_lt (tgt := 22) hx hb dX1_at_1 (by decide) (fun c_1 => ?_) (fun c_1 => ?_)
  · refine lv_iconst (v := (-1)) hx hb dX1_at_22 (by decide) ?_
    exact rd_i hx hb hr hlocks dX1_at_23 (by simp only [cAt, if_pos c_1, ↓reduceIte])
  · refine lv_iload_n hx hb dX1_at_4 rfl (lv_at hl 1 rfl) ?_
    refine lv_aload_n hx hb dX1_at_5 rfl (lv_at hl 0 rfl) ?_
    refine va_get (D := D) (ci := 1) (v := .ref v) (C := RX1) (T := TX1) (N := 1) hx hb hts in_X1_at_X1 hown hK hP 0 rfl rfl 0 (by decide) (hts (.fieldLink RX1 15 "TypingCoach$Cells" "values" "[I") (List.mem_of_getElem? (i := 1) rfl)) (fun _ h9 => h9) rfl dX1_at_6 ?_
    refine va_alen (v := nI n) hx hb hK hP 1 0 rfl rfl rfl dX1_at_9 ?_
    refine lv_icmp_ge (tgt := 22) hx hb dX1_at_10 (by decide) (fun c_2 => ?_) (fun c_2 => ?_)
    · refine lv_iconst (v := (-1)) hx hb dX1_at_22 (by decide) ?_
      exact rd_i hx hb hr hlocks dX1_at_23 (by simp only [cAt, if_neg c_1, if_pos c_2, ↓reduceIte])
    · refine lv_aload_n hx hb dX1_at_13 rfl (lv_at hl 0 rfl) ?_
      refine va_get (D := D) (ci := 1) (v := .ref v) (C := RX1) (T := TX1) (N := 1) hx hb hts in_X1_at_X1 hown hK hP 0 rfl rfl 0 (by decide) (hts (.fieldLink RX1 15 "TypingCoach$Cells" "values" "[I") (List.mem_of_getElem? (i := 1) rfl)) (fun _ h9 => h9) rfl dX1_at_14 ?_
      refine lv_iload_n hx hb dX1_at_17 rfl (lv_at hl 1 rfl) ?_
      refine va_iald hx hb hK hP 1 0 rfl rfl (in_of hn c_1 c_2) dX1_at_18 ?_
      refine lv_goto (tgt := 23) hx hb dX1_at_19 (by decide) ?_
      exact rd_i hx hb hr hlocks dX1_at_23 (by simp only [cAt, if_neg c_1, if_neg c_2, ↓reduceIte])
set_option maxRecDepth 20000 in
theorem in_X1_set_X1 : ∀ w ∈ wsX10, w ∈ wsX1_set := mem_r _ [2] (by decide +kernel)
theorem hd_X1_set : yX1_set.cls = RX1 ∧ yX1_set.cls ≠ "java/lang/invoke/MethodHandle" ∧ yX1_set.cls ≠ "java/lang/invoke/VarHandle" ∧ (parseMethodDescriptor yX1_set.desc).map (fun d => d.parameters.length) = some 2 := by decide +kernel
set_option maxHeartbeats 4000000 in
set_option maxRecDepth 100000 in
theorem c_X1_set (l : Launch) (D : va_G) (z : Nat → ClassId) (q : Nat → Nat) (h : Nat) (v : Nat) (n : Nat) (f : Nat → Int32) (i : Int32) (x : Int32) (sz : Nat) (hn : n < 2 ^ 31) : WR l yX1_set wsX1_set ({ frames := 0, cells := 0, slots := 0, locals := 0 } : Room) D z q [.ref h, .int i, .int x] [(h, .inr (1, [.ref v])), (v, .inl (z 0, n, .inl f))] sz [(h, .inr (1, [.ref v])), (v, .inl (z 0, n, .inl (cSet n f i x)))] none := by
  refine WR_mk (Qc := fun A => QW D [(h, .inr (1, [.ref v])), (v, .inl (z 0, n, .inl (cSet n f i x)))] A none) (cc := cX1_set) (maxL := 3) (ret := none) (by decide) rfl (Nat.le_of_ble_eq_true rfl) ?_
  intro p e s m below meth c A hx hb hr hml hts hown hlocks hin0 H hP hD hE hS hA ls hl
  have hK := hE.1
  have hown : s.vm.findClass RX1 = some m.cls := hown
  have hl : lv_has ls 3 [(0, .ref h), (1, .int i), (2, .int x)] := hl
  refine lv_iload_n hx hb dX1_set_0 rfl (lv_at hl 1 rfl) ?_
  refine lv_if_lt (tgt := 20) hx hb dX1_set_1 (by decide) (fun c_1 => ?_) (fun c_1 => ?_)
  · exact wr_v hx hb hr hlocks hP hD hS dX1_set_20 (by simp only [cSet, if_pos c_1, ↓reduceIte]) (Nat.le_refl _) (Nat.le_refl _)
  · refine lv_iload_n hx hb dX1_set_4 rfl (lv_at hl 1 rfl) ?_
    refine lv_aload_n hx hb dX1_set_5 rfl (lv_at hl 0 rfl) ?_
    refine va_get (D := D) (ci := 1) (v := .ref v) (C := RX1) (T := TX1) (N := 1) hx hb hts in_X1_set_X1 hown hK hP 0 rfl rfl 0 (by decide) (hts (.fieldLink RX1 15 "TypingCoach$Cells" "values" "[I") (List.mem_of_getElem? (i := 1) rfl)) (fun _ h9 => h9) rfl dX1_set_6 ?_
    refine va_alen (v := nI n) hx hb hK hP 1 0 rfl rfl rfl dX1_set_9 ?_
    refine lv_icmp_ge (tgt := 20) hx hb dX1_set_10 (by decide) (fun c_2 => ?_) (fun c_2 => ?_)
    · exact wr_v hx hb hr hlocks hP hD hS dX1_set_20 (by simp only [cSet, if_neg c_1, if_pos c_2, ↓reduceIte]) (Nat.le_refl _) (Nat.le_refl _)
    · refine lv_aload_n hx hb dX1_set_13 rfl (lv_at hl 0 rfl) ?_
      refine va_get (D := D) (ci := 1) (v := .ref v) (C := RX1) (T := TX1) (N := 1) hx hb hts in_X1_set_X1 hown hK hP 0 rfl rfl 0 (by decide) (hts (.fieldLink RX1 15 "TypingCoach$Cells" "values" "[I") (List.mem_of_getElem? (i := 1) rfl)) (fun _ h9 => h9) rfl dX1_set_14 ?_
      refine lv_iload_n hx hb dX1_set_17 rfl (lv_at hl 1 rfl) ?_
      refine lv_iload_n hx hb dX1_set_18 rfl (lv_at hl 2 rfl) ?_
      refine va_iast hx hb hK hP hD hS 1 0 rfl rfl (in_of hn c_1 c_2) dX1_set_19 (fun H locs hP hD hS => ?_)
      have hP : va_P D vwCl [(h, .inr (1, [.ref v])), (v, .inl (z 0, n, .inl (upd f i.toNatClampNeg x)))] H := hP
      have hD : va_D A [(h, .inr (1, [.ref v])), (v, .inl (z 0, n, .inl (upd f i.toNatClampNeg x)))] := hD
      exact wr_v hx hb hr hlocks hP hD hS dX1_set_20 (by simp only [cSet, if_neg c_1, if_neg c_2, ↓reduceIte]) (Nat.le_refl _) (Nat.le_refl _)
theorem hd_X1_add : yX1_add.cls = RX1 ∧ yX1_add.cls ≠ "java/lang/invoke/MethodHandle" ∧ yX1_add.cls ≠ "java/lang/invoke/VarHandle" ∧ (parseMethodDescriptor yX1_add.desc).map (fun d => d.parameters.length) = some 2 := by decide +kernel
set_option maxHeartbeats 4000000 in
set_option maxRecDepth 100000 in
theorem c_X1_add (l : Launch) (D : va_G) (z : Nat → ClassId) (q : Nat → Nat) (h : Nat) (v : Nat) (n : Nat) (f : Nat → Int32) (i : Int32) (mo : Int32) (sz : Nat) (hn : n < 2 ^ 31) : WR l yX1_add wsX1_add ({ frames := 1, cells := 0, slots := 0, locals := 22 } : Room) D z q [.ref h, .int i, .int mo] [(h, .inr (1, [.ref v])), (v, .inl (z 0, n, .inl f))] sz [(h, .inr (1, [.ref v])), (v, .inl (z 0, n, .inl (cSet n f i (cAt n f i + mo))))] none := by
  refine WR_mk (Qc := fun A => QW D [(h, .inr (1, [.ref v])), (v, .inl (z 0, n, .inl (cSet n f i (cAt n f i + mo))))] A none) (cc := cX1_add) (maxL := 3) (ret := none) (by decide) rfl (Nat.le_of_ble_eq_true rfl) ?_
  intro p e s m below meth c A hx hb hr hml hts hown hlocks hin0 H hP hD hE hS hA ls hl
  have hK := hE.1
  have hown : s.vm.findClass RX1 = some m.cls := hown
  have hl : lv_has ls 3 [(0, .ref h), (1, .int i), (2, .int mo)] := hl
  refine lv_aload_n hx hb dX1_add_0 rfl (lv_at hl 0 rfl) ?_
  refine lv_iload_n hx hb dX1_add_1 rfl (lv_at hl 1 rfl) ?_
  refine lv_aload_n hx hb dX1_add_2 rfl (lv_at hl 0 rfl) ?_
  refine lv_iload_n hx hb dX1_add_3 rfl (lv_at hl 1 rfl) ?_
  refine rdV (As := [.int i]) (rest := [.int i, .ref h]) ⟨hx, hb, hml, hown, hts⟩ (c_X1_at l D z q h v n f i hn) (cwV 1 hts gX1_add_X1_at rfl rfl rfl hd_X1_at ⟨Nat.le_of_ble_eq_true rfl, Nat.le_of_ble_eq_true rfl⟩) hE hS hA hP [0, 1] rfl rfl rfl rfl rfl hl.1 rfl (Nat.le_of_ble_eq_true rfl) dX1_add_4 ⟨(Nat.le_of_ble_eq_true rfl), (Nat.le_of_ble_eq_true rfl)⟩ ?_
  refine lv_iload_n hx hb dX1_add_7 rfl (lv_at hl 2 rfl) ?_
  refine lv_iadd hx hb dX1_add_8 ?_
  refine wrVv (As := [.int i, .int ((cAt n f i) + mo)]) (rest := []) ⟨hx, hb, hml, hown, hts⟩ (c_X1_set l D z q h v n f i ((cAt n f i) + mo) H.size hn) (cwV 2 hts gX1_add_X1_set rfl rfl rfl hd_X1_set ⟨Nat.le_of_ble_eq_true rfl, Nat.le_of_ble_eq_true rfl⟩) hE hS hA hP hD [0, 1] rfl rfl rfl rfl rfl rfl rfl hl.1 rfl (Nat.le_of_ble_eq_true rfl) dX1_add_9 ⟨(Nat.le_of_ble_eq_true rfl), (Nat.le_of_ble_eq_true rfl)⟩ (fun H locs hP hD hS => ?_)
  have hP : va_P D vwCl [(h, .inr (1, [.ref v])), (v, .inl (z 0, n, .inl (cSet n f i ((cAt n f i) + mo))))] H := hP
  have hD : va_D A [(h, .inr (1, [.ref v])), (v, .inl (z 0, n, .inl (cSet n f i ((cAt n f i) + mo))))] := hD
  exact wr_v hx hb hr hlocks hP hD hS dX1_add_12 (rfl) (Nat.le_refl _) (Nat.le_refl _)
set_option maxRecDepth 20000 in
theorem in_X0_columnOf_X0 : ∀ w ∈ wsX00, w ∈ wsX0_columnOf := mem_r _ [8, 9] (by decide +kernel)
theorem hd_X0_columnOf : yX0_columnOf.cls = RX0 ∧ yX0_columnOf.cls ≠ "java/lang/invoke/MethodHandle" ∧ yX0_columnOf.cls ≠ "java/lang/invoke/VarHandle" ∧ (parseMethodDescriptor yX0_columnOf.desc).map (fun d => d.parameters.length) = some 1 := by decide +kernel
set_option maxHeartbeats 4000000 in
set_option maxRecDepth 100000 in
theorem c_X0_columnOf (l : Launch) (D : va_G) (z : Nat → ClassId) (q : Nat → Nat) (h : Nat) (c1 : Nat) (v1 : Nat) (c2 : Nat) (v2 : Nat) (pl : Nat → Int32) (lo : Nat → Int32) (i : Int32)  : RD l yX0_columnOf wsX0_columnOf ({ frames := 1, cells := 0, slots := 0, locals := 21 } : Room) D z q [.ref h, .int i] [(h, .inr (0, [.ref c1, .ref c2])), (c1, .inr (1, [.ref v1])), (v1, .inl (z 0, 26, .inl pl)), (c2, .inr (1, [.ref v2])), (v2, .inl (z 0, 30, .inl lo))] (some (.int (bCol pl i))) := by
  refine RD_mk (cc := cX0_columnOf) (maxL := 2) (ret := (some .int)) (by decide) rfl (Nat.le_of_ble_eq_true rfl) ?_
  intro p e s m below meth c hx hb hr hml hts hown hlocks hP hE hS hA ls hl
  have hK := hE.1
  have hown : s.vm.findClass RX0 = some m.cls := hown
  have hl : lv_has ls 2 [(0, .ref h), (1, .int i)] := hl
  refine lv_aload_n hx hb dX0_columnOf_0 rfl (lv_at hl 0 rfl) ?_
  refine va_get (D := D) (ci := 0) (v := .ref c1) (C := RX0) (T := TX0) (N := 2) hx hb hts in_X0_columnOf_X0 hown hK hP 0 rfl rfl 0 (by decide) (hts (.fieldLink RX0 14 "TypingCoach$Board" "placeOfLetter" "LTypingCoach$Cells;") (List.mem_of_getElem? (i := 1) rfl)) (fun _ h9 => h9) rfl dX0_columnOf_1 ?_
  refine lv_iload_n hx hb dX0_columnOf_4 rfl (lv_at hl 1 rfl) ?_
  refine rdV (As := [.int i]) (rest := []) ⟨hx, hb, hml, hown, hts⟩ (c_X1_at l D z q c1 v1 26 pl i (Nat.le_of_ble_eq_true rfl)) (cwV 1 hts gX0_columnOf_X1_at rfl rfl rfl hd_X1_at ⟨Nat.le_of_ble_eq_true rfl, Nat.le_of_ble_eq_true rfl⟩) hE hS hA hP [1, 2] rfl rfl rfl rfl rfl hl.1 rfl (Nat.le_of_ble_eq_true rfl) dX0_columnOf_5 ⟨(Nat.le_of_ble_eq_true rfl), (Nat.le_of_ble_eq_true rfl)⟩ ?_
  refine lv_bipush (v := 10) hx hb dX0_columnOf_8 (by decide) ?_
  refine lv_irem hx hb dX0_columnOf_10 (by decide) ?_
  exact rd_i hx hb hr hlocks dX0_columnOf_11 (rfl)
set_option maxRecDepth 20000 in
theorem in_X0_rowOf_X0 : ∀ w ∈ wsX00, w ∈ wsX0_rowOf := mem_r _ [8, 9] (by decide +kernel)
theorem hd_X0_rowOf : yX0_rowOf.cls = RX0 ∧ yX0_rowOf.cls ≠ "java/lang/invoke/MethodHandle" ∧ yX0_rowOf.cls ≠ "java/lang/invoke/VarHandle" ∧ (parseMethodDescriptor yX0_rowOf.desc).map (fun d => d.parameters.length) = some 1 := by decide +kernel
set_option maxHeartbeats 4000000 in
set_option maxRecDepth 100000 in
theorem c_X0_rowOf (l : Launch) (D : va_G) (z : Nat → ClassId) (q : Nat → Nat) (h : Nat) (c1 : Nat) (v1 : Nat) (c2 : Nat) (v2 : Nat) (pl : Nat → Int32) (lo : Nat → Int32) (i : Int32)  : RD l yX0_rowOf wsX0_rowOf ({ frames := 1, cells := 0, slots := 0, locals := 21 } : Room) D z q [.ref h, .int i] [(h, .inr (0, [.ref c1, .ref c2])), (c1, .inr (1, [.ref v1])), (v1, .inl (z 0, 26, .inl pl)), (c2, .inr (1, [.ref v2])), (v2, .inl (z 0, 30, .inl lo))] (some (.int (bRow pl i))) := by
  refine RD_mk (cc := cX0_rowOf) (maxL := 2) (ret := (some .int)) (by decide) rfl (Nat.le_of_ble_eq_true rfl) ?_
  intro p e s m below meth c hx hb hr hml hts hown hlocks hP hE hS hA ls hl
  have hK := hE.1
  have hown : s.vm.findClass RX0 = some m.cls := hown
  have hl : lv_has ls 2 [(0, .ref h), (1, .int i)] := hl
  refine lv_aload_n hx hb dX0_rowOf_0 rfl (lv_at hl 0 rfl) ?_
  refine va_get (D := D) (ci := 0) (v := .ref c1) (C := RX0) (T := TX0) (N := 2) hx hb hts in_X0_rowOf_X0 hown hK hP 0 rfl rfl 0 (by decide) (hts (.fieldLink RX0 14 "TypingCoach$Board" "placeOfLetter" "LTypingCoach$Cells;") (List.mem_of_getElem? (i := 1) rfl)) (fun _ h9 => h9) rfl dX0_rowOf_1 ?_
  refine lv_iload_n hx hb dX0_rowOf_4 rfl (lv_at hl 1 rfl) ?_
  refine rdV (As := [.int i]) (rest := []) ⟨hx, hb, hml, hown, hts⟩ (c_X1_at l D z q c1 v1 26 pl i (Nat.le_of_ble_eq_true rfl)) (cwV 1 hts gX0_rowOf_X1_at rfl rfl rfl hd_X1_at ⟨Nat.le_of_ble_eq_true rfl, Nat.le_of_ble_eq_true rfl⟩) hE hS hA hP [1, 2] rfl rfl rfl rfl rfl hl.1 rfl (Nat.le_of_ble_eq_true rfl) dX0_rowOf_5 ⟨(Nat.le_of_ble_eq_true rfl), (Nat.le_of_ble_eq_true rfl)⟩ ?_
  refine lv_bipush (v := 10) hx hb dX0_rowOf_8 (by decide) ?_
  refine lv_idiv hx hb dX0_rowOf_10 (by decide) ?_
  exact rd_i hx hb hr hlocks dX0_rowOf_11 (rfl)
theorem hd_X0_fingerOf : yX0_fingerOf.cls = RX0 ∧ yX0_fingerOf.cls ≠ "java/lang/invoke/MethodHandle" ∧ yX0_fingerOf.cls ≠ "java/lang/invoke/VarHandle" ∧ (parseMethodDescriptor yX0_fingerOf.desc).map (fun d => d.parameters.length) = some 1 := by decide +kernel
set_option maxHeartbeats 4000000 in
set_option maxRecDepth 100000 in
theorem c_X0_fingerOf (l : Launch) (D : va_G) (z : Nat → ClassId) (q : Nat → Nat) (h : Nat) (c1 : Nat) (v1 : Nat) (c2 : Nat) (v2 : Nat) (pl : Nat → Int32) (lo : Nat → Int32) (i : Int32)  : RD l yX0_fingerOf wsX0_fingerOf ({ frames := 2, cells := 0, slots := 0, locals := 42 } : Room) D z q [.ref h, .int i] [(h, .inr (0, [.ref c1, .ref c2])), (c1, .inr (1, [.ref v1])), (v1, .inl (z 0, 26, .inl pl)), (c2, .inr (1, [.ref v2])), (v2, .inl (z 0, 30, .inl lo))] (some (.int (bFin pl i))) := by
  refine RD_mk (cc := cX0_fingerOf) (maxL := 3) (ret := (some .int)) (by decide) rfl (Nat.le_of_ble_eq_true rfl) ?_
  intro p e s m below meth c hx hb hr hml hts hown hlocks hP hE hS hA ls hl
  have hK := hE.1
  have hown : s.vm.findClass RX0 = some m.cls := hown
  have hl : lv_has ls 3 [(0, .ref h), (1, .int i)] := hl
  refine lv_aload_n hx hb dX0_fingerOf_0 rfl (lv_at hl 0 rfl) ?_
  refine lv_iload_n hx hb dX0_fingerOf_1 rfl (lv_at hl 1 rfl) ?_
  refine rdV (As := [.int i]) (rest := []) ⟨hx, hb, hml, hown, hts⟩ (c_X0_columnOf l D z q h c1 v1 c2 v2 pl lo i) (cwV 1 hts gX0_fingerOf_X0_columnOf rfl rfl rfl hd_X0_columnOf ⟨Nat.le_of_ble_eq_true rfl, Nat.le_of_ble_eq_true rfl⟩) hE hS hA hP [0, 1, 2, 3, 4] rfl rfl rfl rfl rfl hl.1 rfl (Nat.le_of_ble_eq_true rfl) dX0_fingerOf_2 ⟨(Nat.le_of_ble_eq_true rfl), (Nat.le_of_ble_eq_true rfl)⟩ ?_
  refine lv_istore_n (lv' := [(2, .int (bCol pl i)), (0, .ref h), (1, .int i)]) hx hb dX0_fingerOf_5 rfl hl (by decide) rfl (fun ls hl => ?_)
  refine lv_iload_n hx hb dX0_fingerOf_6 rfl (lv_at hl 0 rfl) ?_
  refine lv_if_lt (tgt := 26) hx hb dX0_fingerOf_7 (by decide) (fun c_1 => ?_) (fun c_1 => ?_)
  · refine lv_iconst (v := (-1)) hx hb dX0_fingerOf_26 (by decide) ?_
    exact rd_i hx hb hr hlocks dX0_fingerOf_27 (by simp only [bFin, if_pos c_1, ↓reduceIte])
  · refine lv_iload_n hx hb dX0_fingerOf_10 rfl (lv_at hl 0 rfl) ?_
    refine va_getsN hx hb hE.2.2.2.1.1 hS hown (va_Nw.use rfl hE.2.1.2.2) (fun _ h9 => h9) dX0_fingerOf_11 ?_
    refine va_tlen hx hb hE.2.2.2.1.2 hS (v := 10) rfl dX0_fingerOf_14 ?_
    refine lv_icmp_ge (tgt := 26) hx hb dX0_fingerOf_15 (by decide) (fun c_2 => ?_) (fun c_2 => ?_)
    · refine lv_iconst (v := (-1)) hx hb dX0_fingerOf_26 (by decide) ?_
      exact rd_i hx hb hr hlocks dX0_fingerOf_27 (by simp only [bFin, if_neg c_1, if_pos c_2, ↓reduceIte])
    · refine va_getsN hx hb hE.2.2.2.1.1 hS hown (va_Nw.use rfl hE.2.1.2.2) (fun _ h9 => h9) dX0_fingerOf_18 ?_
      refine lv_iload_n hx hb dX0_fingerOf_21 rfl (lv_at hl 0 rfl) ?_
      refine va_ti hx hb hE.2.2.2.1.2 hS (in_of (n := 10) (Nat.le_of_ble_eq_true rfl) c_1 c_2) (v := .int (fingT (bCol pl i).toNatClampNeg)) rfl dX0_fingerOf_22 ?_
      refine lv_goto (tgt := 27) hx hb dX0_fingerOf_23 (by decide) ?_
      exact rd_i hx hb hr hlocks dX0_fingerOf_27 (by simp only [bFin, if_neg c_1, if_neg c_2, ↓reduceIte])
theorem hd_X0_touch : yX0_touch.cls = RX0 ∧ yX0_touch.cls ≠ "java/lang/invoke/MethodHandle" ∧ yX0_touch.cls ≠ "java/lang/invoke/VarHandle" ∧ (parseMethodDescriptor yX0_touch.desc).map (fun d => d.parameters.length) = some 2 := by decide +kernel
set_option maxHeartbeats 4000000 in
set_option maxRecDepth 100000 in
theorem c_X0_touch (l : Launch) (D : va_G) (z : Nat → ClassId) (q : Nat → Nat) (h : Nat) (c1 : Nat) (v1 : Nat) (c2 : Nat) (v2 : Nat) (pl : Nat → Int32) (lo : Nat → Int32) (i : Int32) (j : Int32)  : RD l yX0_touch wsX0_touch ({ frames := 2, cells := 0, slots := 0, locals := 42 } : Room) D z q [.ref h, .int i, .int j] [(h, .inr (0, [.ref c1, .ref c2])), (c1, .inr (1, [.ref v1])), (v1, .inl (z 0, 26, .inl pl)), (c2, .inr (1, [.ref v2])), (v2, .inl (z 0, 30, .inl lo))] (some (.int (bTouch pl i j))) := by
  refine RD_mk (cc := cX0_touch) (maxL := 3) (ret := (some .boolean)) (by decide) rfl (Nat.le_of_ble_eq_true rfl) ?_
  intro p e s m below meth c hx hb hr hml hts hown hlocks hP hE hS hA ls hl
  have hK := hE.1
  have hown : s.vm.findClass RX0 = some m.cls := hown
  have hl : lv_has ls 3 [(0, .ref h), (1, .int i), (2, .int j)] := hl
  refine lv_aload_n hx hb dX0_touch_0 rfl (lv_at hl 0 rfl) ?_
  refine lv_iload_n hx hb dX0_touch_1 rfl (lv_at hl 1 rfl) ?_
  refine rdV (As := [.int i]) (rest := []) ⟨hx, hb, hml, hown, hts⟩ (c_X0_columnOf l D z q h c1 v1 c2 v2 pl lo i) (cwV 1 hts gX0_touch_X0_columnOf rfl rfl rfl hd_X0_columnOf ⟨Nat.le_of_ble_eq_true rfl, Nat.le_of_ble_eq_true rfl⟩) hE hS hA hP [0, 1, 2, 3, 4] rfl rfl rfl rfl rfl hl.1 rfl (Nat.le_of_ble_eq_true rfl) dX0_touch_2 ⟨(Nat.le_of_ble_eq_true rfl), (Nat.le_of_ble_eq_true rfl)⟩ ?_
  refine lv_aload_n hx hb dX0_touch_5 rfl (lv_at hl 0 rfl) ?_
  refine lv_iload_n hx hb dX0_touch_6 rfl (lv_at hl 2 rfl) ?_
  refine rdV (As := [.int j]) (rest := [.int (bCol pl i)]) ⟨hx, hb, hml, hown, hts⟩ (c_X0_columnOf l D z q h c1 v1 c2 v2 pl lo j) (cwV 1 hts gX0_touch_X0_columnOf rfl rfl rfl hd_X0_columnOf ⟨Nat.le_of_ble_eq_true rfl, Nat.le_of_ble_eq_true rfl⟩) hE hS hA hP [0, 1, 2, 3, 4] rfl rfl rfl rfl rfl hl.1 rfl (Nat.le_of_ble_eq_true rfl) dX0_touch_7 ⟨(Nat.le_of_ble_eq_true rfl), (Nat.le_of_ble_eq_true rfl)⟩ ?_
  refine lv_isub hx hb dX0_touch_10 ?_
  refine va_mabs hx hb (by rw [hml]; exact hl.1.symm) hown (hts (.methodLink RX0 37 Lib.Math.abs.name) (List.mem_of_getElem? (i := 1) rfl)) (hts (.static Lib.Math.abs.name) (List.mem_of_getElem? (i := 2) rfl)) (hts (.initialized "java/lang/Math") (List.mem_of_getElem? (i := 3) rfl)) (hts (.code Lib.Math.abs.name Lib.Math.abs.code 1 (some .int)) (List.mem_of_getElem? (i := 4) rfl)) (Nat.le_of_ble_eq_true rfl) (Nat.le_of_ble_eq_true rfl) (Nat.zero_le _) (Nat.zero_le _) dX0_touch_11 ?_
  refine lv_iconst (v := 1) hx hb dX0_touch_14 (by decide) ?_
  refine lv_icmp_gt (tgt := 40) hx hb dX0_touch_15 (by decide) (fun c_1 => ?_) (fun c_1 => ?_)
  · refine lv_iconst (v := 0) hx hb dX0_touch_40 (by decide) ?_
    exact rd_z hx hb hr hlocks dX0_touch_41 (by decide) (by simp only [bTouch, iAbs, c_1, ↓reduceIte])
  · refine lv_aload_n hx hb dX0_touch_18 rfl (lv_at hl 0 rfl) ?_
    refine lv_iload_n hx hb dX0_touch_19 rfl (lv_at hl 1 rfl) ?_
    refine rdV (As := [.int i]) (rest := []) ⟨hx, hb, hml, hown, hts⟩ (c_X0_rowOf l D z q h c1 v1 c2 v2 pl lo i) (cwV 1 hts gX0_touch_X0_rowOf rfl rfl rfl hd_X0_rowOf ⟨Nat.le_of_ble_eq_true rfl, Nat.le_of_ble_eq_true rfl⟩) hE hS hA hP [0, 1, 2, 3, 4] rfl rfl rfl rfl rfl hl.1 rfl (Nat.le_of_ble_eq_true rfl) dX0_touch_20 ⟨(Nat.le_of_ble_eq_true rfl), (Nat.le_of_ble_eq_true rfl)⟩ ?_
    refine lv_aload_n hx hb dX0_touch_23 rfl (lv_at hl 0 rfl) ?_
    refine lv_iload_n hx hb dX0_touch_24 rfl (lv_at hl 2 rfl) ?_
    refine rdV (As := [.int j]) (rest := [.int (bRow pl i)]) ⟨hx, hb, hml, hown, hts⟩ (c_X0_rowOf l D z q h c1 v1 c2 v2 pl lo j) (cwV 1 hts gX0_touch_X0_rowOf rfl rfl rfl hd_X0_rowOf ⟨Nat.le_of_ble_eq_true rfl, Nat.le_of_ble_eq_true rfl⟩) hE hS hA hP [0, 1, 2, 3, 4] rfl rfl rfl rfl rfl hl.1 rfl (Nat.le_of_ble_eq_true rfl) dX0_touch_25 ⟨(Nat.le_of_ble_eq_true rfl), (Nat.le_of_ble_eq_true rfl)⟩ ?_
    refine lv_isub hx hb dX0_touch_28 ?_
    refine va_mabs hx hb (by rw [hml]; exact hl.1.symm) hown (hts (.methodLink RX0 37 Lib.Math.abs.name) (List.mem_of_getElem? (i := 1) rfl)) (hts (.static Lib.Math.abs.name) (List.mem_of_getElem? (i := 2) rfl)) (hts (.initialized "java/lang/Math") (List.mem_of_getElem? (i := 3) rfl)) (hts (.code Lib.Math.abs.name Lib.Math.abs.code 1 (some .int)) (List.mem_of_getElem? (i := 4) rfl)) (Nat.le_of_ble_eq_true rfl) (Nat.le_of_ble_eq_true rfl) (Nat.zero_le _) (Nat.zero_le _) dX0_touch_29 ?_
    refine lv_iconst (v := 1) hx hb dX0_touch_32 (by decide) ?_
    refine lv_icmp_gt (tgt := 40) hx hb dX0_touch_33 (by decide) (fun c_2 => ?_) (fun c_2 => ?_)
    · refine lv_iconst (v := 0) hx hb dX0_touch_40 (by decide) ?_
      exact rd_z hx hb hr hlocks dX0_touch_41 (by decide) (by simp only [bTouch, iAbs, c_1, c_2, ↓reduceIte])
    · refine lv_iconst (v := 1) hx hb dX0_touch_36 (by decide) ?_
      refine lv_goto (tgt := 41) hx hb dX0_touch_37 (by decide) ?_
      exact rd_z hx hb hr hlocks dX0_touch_41 (by decide) (by simp only [bTouch, iAbs, c_1, c_2, ↓reduceIte])
set_option maxRecDepth 20000 in
theorem in_X0_mirrorOf_X0 : ∀ w ∈ wsX00, w ∈ wsX0_mirrorOf := mem_r _ [18, 19] (by decide +kernel)
theorem hd_X0_mirrorOf : yX0_mirrorOf.cls = RX0 ∧ yX0_mirrorOf.cls ≠ "java/lang/invoke/MethodHandle" ∧ yX0_mirrorOf.cls ≠ "java/lang/invoke/VarHandle" ∧ (parseMethodDescriptor yX0_mirrorOf.desc).map (fun d => d.parameters.length) = some 1 := by decide +kernel
set_option maxHeartbeats 4000000 in
set_option maxRecDepth 100000 in
theorem c_X0_mirrorOf (l : Launch) (D : va_G) (z : Nat → ClassId) (q : Nat → Nat) (h : Nat) (c1 : Nat) (v1 : Nat) (c2 : Nat) (v2 : Nat) (pl : Nat → Int32) (lo : Nat → Int32) (i : Int32)  : RD l yX0_mirrorOf wsX0_mirrorOf ({ frames := 2, cells := 0, slots := 0, locals := 42 } : Room) D z q [.ref h, .int i] [(h, .inr (0, [.ref c1, .ref c2])), (c1, .inr (1, [.ref v1])), (v1, .inl (z 0, 26, .inl pl)), (c2, .inr (1, [.ref v2])), (v2, .inl (z 0, 30, .inl lo))] (some (.int (bMir pl lo i))) := by
  refine RD_mk (cc := cX0_mirrorOf) (maxL := 2) (ret := (some .int)) (by decide) rfl (Nat.le_of_ble_eq_true rfl) ?_
  intro p e s m below meth c hx hb hr hml hts hown hlocks hP hE hS hA ls hl
  have hK := hE.1
  have hown : s.vm.findClass RX0 = some m.cls := hown
  have hl : lv_has ls 2 [(0, .ref h), (1, .int i)] := hl
  refine lv_aload_n hx hb dX0_mirrorOf_0 rfl (lv_at hl 0 rfl) ?_
  refine va_get (D := D) (ci := 0) (v := .ref c2) (C := RX0) (T := TX0) (N := 2) hx hb hts in_X0_mirrorOf_X0 hown hK hP 0 rfl rfl 1 (by decide) (hts (.fieldLink RX0 20 "TypingCoach$Board" "letterOfPlace" "LTypingCoach$Cells;") (List.mem_of_getElem? (i := 1) rfl)) (fun _ h9 => h9) rfl dX0_mirrorOf_1 ?_
  refine lv_aload_n hx hb dX0_mirrorOf_4 rfl (lv_at hl 0 rfl) ?_
  refine lv_iload_n hx hb dX0_mirrorOf_5 rfl (lv_at hl 1 rfl) ?_
  refine rdV (As := [.int i]) (rest := [.ref c2]) ⟨hx, hb, hml, hown, hts⟩ (c_X0_rowOf l D z q h c1 v1 c2 v2 pl lo i) (cwV 1 hts gX0_mirrorOf_X0_rowOf rfl rfl rfl hd_X0_rowOf ⟨Nat.le_of_ble_eq_true rfl, Nat.le_of_ble_eq_true rfl⟩) hE hS hA hP [0, 1, 2, 3, 4] rfl rfl rfl rfl rfl hl.1 rfl (Nat.le_of_ble_eq_true rfl) dX0_mirrorOf_6 ⟨(Nat.le_of_ble_eq_true rfl), (Nat.le_of_ble_eq_true rfl)⟩ ?_
  refine lv_bipush (v := 10) hx hb dX0_mirrorOf_9 (by decide) ?_
  refine lv_imul hx hb dX0_mirrorOf_11 ?_
  refine lv_bipush (v := 10) hx hb dX0_mirrorOf_12 (by decide) ?_
  refine lv_iadd hx hb dX0_mirrorOf_14 ?_
  refine lv_iconst (v := 1) hx hb dX0_mirrorOf_15 (by decide) ?_
  refine lv_isub hx hb dX0_mirrorOf_16 ?_
  refine lv_aload_n hx hb dX0_mirrorOf_17 rfl (lv_at hl 0 rfl) ?_
  refine lv_iload_n hx hb dX0_mirrorOf_18 rfl (lv_at hl 1 rfl) ?_
  refine rdV (As := [.int i]) (rest := [.int ((((bRow pl i) * 10) + 10) - 1), .ref c2]) ⟨hx, hb, hml, hown, hts⟩ (c_X0_columnOf l D z q h c1 v1 c2 v2 pl lo i) (cwV 1 hts gX0_mirrorOf_X0_columnOf rfl rfl rfl hd_X0_columnOf ⟨Nat.le_of_ble_eq_true rfl, Nat.le_of_ble_eq_true rfl⟩) hE hS hA hP [0, 1, 2, 3, 4] rfl rfl rfl rfl rfl hl.1 rfl (Nat.le_of_ble_eq_true rfl) dX0_mirrorOf_19 ⟨(Nat.le_of_ble_eq_true rfl), (Nat.le_of_ble_eq_true rfl)⟩ ?_
  refine lv_isub hx hb dX0_mirrorOf_22 ?_
  refine rdV (As := [.int (((((bRow pl i) * 10) + 10) - 1) - (bCol pl i))]) (rest := []) ⟨hx, hb, hml, hown, hts⟩ (c_X1_at l D z q c2 v2 30 lo (((((bRow pl i) * 10) + 10) - 1) - (bCol pl i)) (Nat.le_of_ble_eq_true rfl)) (cwV 1 hts gX0_mirrorOf_X1_at rfl rfl rfl hd_X1_at ⟨Nat.le_of_ble_eq_true rfl, Nat.le_of_ble_eq_true rfl⟩) hE hS hA hP [3, 4] rfl rfl rfl rfl rfl hl.1 rfl (Nat.le_of_ble_eq_true rfl) dX0_mirrorOf_23 ⟨(Nat.le_of_ble_eq_true rfl), (Nat.le_of_ble_eq_true rfl)⟩ ?_
  exact rd_i hx hb hr hlocks dX0_mirrorOf_26 (rfl)
set_option maxRecDepth 20000 in
theorem in_X0_move_X0 : ∀ w ∈ wsX00, w ∈ wsX0_move := mem_r _ [13, 14] (by decide +kernel)
theorem hd_X0_move : yX0_move.cls = RX0 ∧ yX0_move.cls ≠ "java/lang/invoke/MethodHandle" ∧ yX0_move.cls ≠ "java/lang/invoke/VarHandle" ∧ (parseMethodDescriptor yX0_move.desc).map (fun d => d.parameters.length) = some 2 := by decide +kernel
set_option maxHeartbeats 4000000 in
set_option maxRecDepth 100000 in
theorem c_X0_move (l : Launch) (D : va_G) (z : Nat → ClassId) (q : Nat → Nat) (h : Nat) (c1 : Nat) (v1 : Nat) (c2 : Nat) (v2 : Nat) (pl : Nat → Int32) (lo : Nat → Int32) (i : Int32) (x : Int32) (sz : Nat)  : WR l yX0_move wsX0_move ({ frames := 1, cells := 0, slots := 0, locals := 22 } : Room) D z q [.ref h, .int i, .int x] [(h, .inr (0, [.ref c1, .ref c2])), (c1, .inr (1, [.ref v1])), (v1, .inl (z 0, 26, .inl pl)), (c2, .inr (1, [.ref v2])), (v2, .inl (z 0, 30, .inl lo))] sz [(h, .inr (0, [.ref c1, .ref c2])), (c1, .inr (1, [.ref v1])), (v1, .inl (z 0, 26, .inl (bMovP pl lo i x))), (c2, .inr (1, [.ref v2])), (v2, .inl (z 0, 30, .inl (bMovL pl lo i x)))] (some (.int (cAt 30 lo x))) := by
  refine WR_mk (Qc := fun A => QW D [(h, .inr (0, [.ref c1, .ref c2])), (c1, .inr (1, [.ref v1])), (v1, .inl (z 0, 26, .inl (bMovP pl lo i x))), (c2, .inr (1, [.ref v2])), (v2, .inl (z 0, 30, .inl (bMovL pl lo i x)))] A (some (.int (cAt 30 lo x)))) (cc := cX0_move) (maxL := 5) (ret := (some .int)) (by decide) rfl (Nat.le_of_ble_eq_true rfl) ?_
  intro p e s m below meth c A hx hb hr hml hts hown hlocks hin0 H hP hD hE hS hA ls hl
  have hK := hE.1
  have hown : s.vm.findClass RX0 = some m.cls := hown
  have hl : lv_has ls 5 [(0, .ref h), (1, .int i), (2, .int x)] := hl
  refine lv_aload_n hx hb dX0_move_0 rfl (lv_at hl 0 rfl) ?_
  refine va_get (D := D) (ci := 0) (v := .ref c2) (C := RX0) (T := TX0) (N := 2) hx hb hts in_X0_move_X0 hown hK hP 0 rfl rfl 1 (by decide) (hts (.fieldLink RX0 20 "TypingCoach$Board" "letterOfPlace" "LTypingCoach$Cells;") (List.mem_of_getElem? (i := 1) rfl)) (fun _ h9 => h9) rfl dX0_move_1 ?_
  refine lv_iload_n hx hb dX0_move_4 rfl (lv_at hl 2 rfl) ?_
  refine rdV (As := [.int x]) (rest := []) ⟨hx, hb, hml, hown, hts⟩ (c_X1_at l D z q c2 v2 30 lo x (Nat.le_of_ble_eq_true rfl)) (cwV 1 hts gX0_move_X1_at rfl rfl rfl hd_X1_at ⟨Nat.le_of_ble_eq_true rfl, Nat.le_of_ble_eq_true rfl⟩) hE hS hA hP [3, 4] rfl rfl rfl rfl rfl hl.1 rfl (Nat.le_of_ble_eq_true rfl) dX0_move_5 ⟨(Nat.le_of_ble_eq_true rfl), (Nat.le_of_ble_eq_true rfl)⟩ ?_
  refine lv_istore_n (lv' := [(3, .int (cAt 30 lo x)), (0, .ref h), (1, .int i), (2, .int x)]) hx hb dX0_move_8 rfl hl (by decide) rfl (fun ls hl => ?_)
  refine lv_aload_n hx hb dX0_move_9 rfl (lv_at hl 1 rfl) ?_
  refine va_get (D := D) (ci := 0) (v := .ref c1) (C := RX0) (T := TX0) (N := 2) hx hb hts in_X0_move_X0 hown hK hP 0 rfl rfl 0 (by decide) (hts (.fieldLink RX0 14 "TypingCoach$Board" "placeOfLetter" "LTypingCoach$Cells;") (List.mem_of_getElem? (i := 2) rfl)) (fun _ h9 => h9) rfl dX0_move_10 ?_
  refine lv_iload_n hx hb dX0_move_13 rfl (lv_at hl 2 rfl) ?_
  refine rdV (As := [.int i]) (rest := []) ⟨hx, hb, hml, hown, hts⟩ (c_X1_at l D z q c1 v1 26 pl i (Nat.le_of_ble_eq_true rfl)) (cwV 1 hts gX0_move_X1_at rfl rfl rfl hd_X1_at ⟨Nat.le_of_ble_eq_true rfl, Nat.le_of_ble_eq_true rfl⟩) hE hS hA hP [1, 2] rfl rfl rfl rfl rfl hl.1 rfl (Nat.le_of_ble_eq_true rfl) dX0_move_14 ⟨(Nat.le_of_ble_eq_true rfl), (Nat.le_of_ble_eq_true rfl)⟩ ?_
  refine lv_istore (lv' := [(4, .int (cAt 26 pl i)), (3, .int (cAt 30 lo x)), (0, .ref h), (1, .int i), (2, .int x)]) hx hb dX0_move_17 hl (by decide) rfl (fun ls hl => ?_)
  refine lv_aload_n hx hb dX0_move_19 rfl (lv_at hl 2 rfl) ?_
  refine va_get (D := D) (ci := 0) (v := .ref c2) (C := RX0) (T := TX0) (N := 2) hx hb hts in_X0_move_X0 hown hK hP 0 rfl rfl 1 (by decide) (hts (.fieldLink RX0 20 "TypingCoach$Board" "letterOfPlace" "LTypingCoach$Cells;") (List.mem_of_getElem? (i := 1) rfl)) (fun _ h9 => h9) rfl dX0_move_20 ?_
  refine lv_iload hx hb dX0_move_23 (lv_at hl 0 rfl) ?_
  refine lv_iload_n hx hb dX0_move_25 rfl (lv_at hl 1 rfl) ?_
  refine wrVv (As := [.int (cAt 26 pl i), .int (cAt 30 lo x)]) (rest := []) ⟨hx, hb, hml, hown, hts⟩ (c_X1_set l D z q c2 v2 30 lo (cAt 26 pl i) (cAt 30 lo x) H.size (Nat.le_of_ble_eq_true rfl)) (cwV 2 hts gX0_move_X1_set rfl rfl rfl hd_X1_set ⟨Nat.le_of_ble_eq_true rfl, Nat.le_of_ble_eq_true rfl⟩) hE hS hA hP hD [3, 4] rfl rfl rfl rfl rfl rfl rfl hl.1 rfl (Nat.le_of_ble_eq_true rfl) dX0_move_26 ⟨(Nat.le_of_ble_eq_true rfl), (Nat.le_of_ble_eq_true rfl)⟩ (fun H locs hP hD hS => ?_)
  have hP : va_P D vwCl [(h, .inr (0, [.ref c1, .ref c2])), (c1, .inr (1, [.ref v1])), (v1, .inl (z 0, 26, .inl pl)), (c2, .inr (1, [.ref v2])), (v2, .inl (z 0, 30, .inl (cSet 30 lo (cAt 26 pl i) (cAt 30 lo x))))] H := hP
  have hD : va_D A [(h, .inr (0, [.ref c1, .ref c2])), (c1, .inr (1, [.ref v1])), (v1, .inl (z 0, 26, .inl pl)), (c2, .inr (1, [.ref v2])), (v2, .inl (z 0, 30, .inl (cSet 30 lo (cAt 26 pl i) (cAt 30 lo x))))] := hD
  refine lv_iload_n hx hb dX0_move_29 rfl (lv_at hl 1 rfl) ?_
  refine lv_iconst (v := (-1)) hx hb dX0_move_30 (by decide) ?_
  refine lv_icmp_eq (tgt := 44) hx hb dX0_move_31 (by decide) (fun c_1 => ?_) (fun c_1 => ?_)
  · refine lv_aload_n hx hb dX0_move_44 rfl (lv_at hl 2 rfl) ?_
    refine va_get (D := D) (ci := 0) (v := .ref c2) (C := RX0) (T := TX0) (N := 2) hx hb hts in_X0_move_X0 hown hK hP 0 rfl rfl 1 (by decide) (hts (.fieldLink RX0 20 "TypingCoach$Board" "letterOfPlace" "LTypingCoach$Cells;") (List.mem_of_getElem? (i := 1) rfl)) (fun _ h9 => h9) rfl dX0_move_45 ?_
    refine lv_iload_n hx hb dX0_move_48 rfl (lv_at hl 4 rfl) ?_
    refine lv_iload_n hx hb dX0_move_49 rfl (lv_at hl 3 rfl) ?_
    refine wrVv (As := [.int x, .int i]) (rest := []) ⟨hx, hb, hml, hown, hts⟩ (c_X1_set l D z q c2 v2 30 (cSet 30 lo (cAt 26 pl i) (cAt 30 lo x)) x i H.size (Nat.le_of_ble_eq_true rfl)) (cwV 2 hts gX0_move_X1_set rfl rfl rfl hd_X1_set ⟨Nat.le_of_ble_eq_true rfl, Nat.le_of_ble_eq_true rfl⟩) hE hS hA hP hD [3, 4] rfl rfl rfl rfl rfl rfl rfl hl.1 rfl (Nat.le_of_ble_eq_true rfl) dX0_move_50 ⟨(Nat.le_of_ble_eq_true rfl), (Nat.le_of_ble_eq_true rfl)⟩ (fun H locs hP hD hS => ?_)
    have hP : va_P D vwCl [(h, .inr (0, [.ref c1, .ref c2])), (c1, .inr (1, [.ref v1])), (v1, .inl (z 0, 26, .inl pl)), (c2, .inr (1, [.ref v2])), (v2, .inl (z 0, 30, .inl (cSet 30 (cSet 30 lo (cAt 26 pl i) (cAt 30 lo x)) x i)))] H := hP
    have hD : va_D A [(h, .inr (0, [.ref c1, .ref c2])), (c1, .inr (1, [.ref v1])), (v1, .inl (z 0, 26, .inl pl)), (c2, .inr (1, [.ref v2])), (v2, .inl (z 0, 30, .inl (cSet 30 (cSet 30 lo (cAt 26 pl i) (cAt 30 lo x)) x i)))] := hD
    refine lv_aload_n hx hb dX0_move_53 rfl (lv_at hl 2 rfl) ?_
    refine va_get (D := D) (ci := 0) (v := .ref c1) (C := RX0) (T := TX0) (N := 2) hx hb hts in_X0_move_X0 hown hK hP 0 rfl rfl 0 (by decide) (hts (.fieldLink RX0 14 "TypingCoach$Board" "placeOfLetter" "LTypingCoach$Cells;") (List.mem_of_getElem? (i := 2) rfl)) (fun _ h9 => h9) rfl dX0_move_54 ?_
    refine lv_iload_n hx hb dX0_move_57 rfl (lv_at hl 3 rfl) ?_
    refine lv_iload_n hx hb dX0_move_58 rfl (lv_at hl 4 rfl) ?_
    refine wrVv (As := [.int i, .int x]) (rest := []) ⟨hx, hb, hml, hown, hts⟩ (c_X1_set l D z q c1 v1 26 pl i x H.size (Nat.le_of_ble_eq_true rfl)) (cwV 2 hts gX0_move_X1_set rfl rfl rfl hd_X1_set ⟨Nat.le_of_ble_eq_true rfl, Nat.le_of_ble_eq_true rfl⟩) hE hS hA hP hD [1, 2] rfl rfl rfl rfl rfl rfl rfl hl.1 rfl (Nat.le_of_ble_eq_true rfl) dX0_move_59 ⟨(Nat.le_of_ble_eq_true rfl), (Nat.le_of_ble_eq_true rfl)⟩ (fun H locs hP hD hS => ?_)
    have hP : va_P D vwCl [(h, .inr (0, [.ref c1, .ref c2])), (c1, .inr (1, [.ref v1])), (v1, .inl (z 0, 26, .inl (cSet 26 pl i x))), (c2, .inr (1, [.ref v2])), (v2, .inl (z 0, 30, .inl (cSet 30 (cSet 30 lo (cAt 26 pl i) (cAt 30 lo x)) x i)))] H := hP
    have hD : va_D A [(h, .inr (0, [.ref c1, .ref c2])), (c1, .inr (1, [.ref v1])), (v1, .inl (z 0, 26, .inl (cSet 26 pl i x))), (c2, .inr (1, [.ref v2])), (v2, .inl (z 0, 30, .inl (cSet 30 (cSet 30 lo (cAt 26 pl i) (cAt 30 lo x)) x i)))] := hD
    refine lv_iload_n hx hb dX0_move_62 rfl (lv_at hl 1 rfl) ?_
    exact wr_i hx hb hr hlocks hP hD hS dX0_move_63 (by simp only [bMovP, bMovL, if_pos c_1, ↓reduceIte]) (rfl) (Nat.le_refl _) (Nat.le_refl _)
  · refine lv_aload_n hx hb dX0_move_34 rfl (lv_at hl 2 rfl) ?_
    refine va_get (D := D) (ci := 0) (v := .ref c1) (C := RX0) (T := TX0) (N := 2) hx hb hts in_X0_move_X0 hown hK hP 0 rfl rfl 0 (by decide) (hts (.fieldLink RX0 14 "TypingCoach$Board" "placeOfLetter" "LTypingCoach$Cells;") (List.mem_of_getElem? (i := 2) rfl)) (fun _ h9 => h9) rfl dX0_move_35 ?_
    refine lv_iload_n hx hb dX0_move_38 rfl (lv_at hl 1 rfl) ?_
    refine lv_iload hx hb dX0_move_39 (lv_at hl 0 rfl) ?_
    refine wrVv (As := [.int (cAt 30 lo x), .int (cAt 26 pl i)]) (rest := []) ⟨hx, hb, hml, hown, hts⟩ (c_X1_set l D z q c1 v1 26 pl (cAt 30 lo x) (cAt 26 pl i) H.size (Nat.le_of_ble_eq_true rfl)) (cwV 2 hts gX0_move_X1_set rfl rfl rfl hd_X1_set ⟨Nat.le_of_ble_eq_true rfl, Nat.le_of_ble_eq_true rfl⟩) hE hS hA hP hD [1, 2] rfl rfl rfl rfl rfl rfl rfl hl.1 rfl (Nat.le_of_ble_eq_true rfl) dX0_move_41 ⟨(Nat.le_of_ble_eq_true rfl), (Nat.le_of_ble_eq_true rfl)⟩ (fun H locs hP hD hS => ?_)
    have hP : va_P D vwCl [(h, .inr (0, [.ref c1, .ref c2])), (c1, .inr (1, [.ref v1])), (v1, .inl (z 0, 26, .inl (cSet 26 pl (cAt 30 lo x) (cAt 26 pl i)))), (c2, .inr (1, [.ref v2])), (v2, .inl (z 0, 30, .inl (cSet 30 lo (cAt 26 pl i) (cAt 30 lo x))))] H := hP
    have hD : va_D A [(h, .inr (0, [.ref c1, .ref c2])), (c1, .inr (1, [.ref v1])), (v1, .inl (z 0, 26, .inl (cSet 26 pl (cAt 30 lo x) (cAt 26 pl i)))), (c2, .inr (1, [.ref v2])), (v2, .inl (z 0, 30, .inl (cSet 30 lo (cAt 26 pl i) (cAt 30 lo x))))] := hD
    refine lv_aload_n hx hb dX0_move_44 rfl (lv_at hl 2 rfl) ?_
    refine va_get (D := D) (ci := 0) (v := .ref c2) (C := RX0) (T := TX0) (N := 2) hx hb hts in_X0_move_X0 hown hK hP 0 rfl rfl 1 (by decide) (hts (.fieldLink RX0 20 "TypingCoach$Board" "letterOfPlace" "LTypingCoach$Cells;") (List.mem_of_getElem? (i := 1) rfl)) (fun _ h9 => h9) rfl dX0_move_45 ?_
    refine lv_iload_n hx hb dX0_move_48 rfl (lv_at hl 4 rfl) ?_
    refine lv_iload_n hx hb dX0_move_49 rfl (lv_at hl 3 rfl) ?_
    refine wrVv (As := [.int x, .int i]) (rest := []) ⟨hx, hb, hml, hown, hts⟩ (c_X1_set l D z q c2 v2 30 (cSet 30 lo (cAt 26 pl i) (cAt 30 lo x)) x i H.size (Nat.le_of_ble_eq_true rfl)) (cwV 2 hts gX0_move_X1_set rfl rfl rfl hd_X1_set ⟨Nat.le_of_ble_eq_true rfl, Nat.le_of_ble_eq_true rfl⟩) hE hS hA hP hD [3, 4] rfl rfl rfl rfl rfl rfl rfl hl.1 rfl (Nat.le_of_ble_eq_true rfl) dX0_move_50 ⟨(Nat.le_of_ble_eq_true rfl), (Nat.le_of_ble_eq_true rfl)⟩ (fun H locs hP hD hS => ?_)
    have hP : va_P D vwCl [(h, .inr (0, [.ref c1, .ref c2])), (c1, .inr (1, [.ref v1])), (v1, .inl (z 0, 26, .inl (cSet 26 pl (cAt 30 lo x) (cAt 26 pl i)))), (c2, .inr (1, [.ref v2])), (v2, .inl (z 0, 30, .inl (cSet 30 (cSet 30 lo (cAt 26 pl i) (cAt 30 lo x)) x i)))] H := hP
    have hD : va_D A [(h, .inr (0, [.ref c1, .ref c2])), (c1, .inr (1, [.ref v1])), (v1, .inl (z 0, 26, .inl (cSet 26 pl (cAt 30 lo x) (cAt 26 pl i)))), (c2, .inr (1, [.ref v2])), (v2, .inl (z 0, 30, .inl (cSet 30 (cSet 30 lo (cAt 26 pl i) (cAt 30 lo x)) x i)))] := hD
    refine lv_aload_n hx hb dX0_move_53 rfl (lv_at hl 2 rfl) ?_
    refine va_get (D := D) (ci := 0) (v := .ref c1) (C := RX0) (T := TX0) (N := 2) hx hb hts in_X0_move_X0 hown hK hP 0 rfl rfl 0 (by decide) (hts (.fieldLink RX0 14 "TypingCoach$Board" "placeOfLetter" "LTypingCoach$Cells;") (List.mem_of_getElem? (i := 2) rfl)) (fun _ h9 => h9) rfl dX0_move_54 ?_
    refine lv_iload_n hx hb dX0_move_57 rfl (lv_at hl 3 rfl) ?_
    refine lv_iload_n hx hb dX0_move_58 rfl (lv_at hl 4 rfl) ?_
    refine wrVv (As := [.int i, .int x]) (rest := []) ⟨hx, hb, hml, hown, hts⟩ (c_X1_set l D z q c1 v1 26 (cSet 26 pl (cAt 30 lo x) (cAt 26 pl i)) i x H.size (Nat.le_of_ble_eq_true rfl)) (cwV 2 hts gX0_move_X1_set rfl rfl rfl hd_X1_set ⟨Nat.le_of_ble_eq_true rfl, Nat.le_of_ble_eq_true rfl⟩) hE hS hA hP hD [1, 2] rfl rfl rfl rfl rfl rfl rfl hl.1 rfl (Nat.le_of_ble_eq_true rfl) dX0_move_59 ⟨(Nat.le_of_ble_eq_true rfl), (Nat.le_of_ble_eq_true rfl)⟩ (fun H locs hP hD hS => ?_)
    have hP : va_P D vwCl [(h, .inr (0, [.ref c1, .ref c2])), (c1, .inr (1, [.ref v1])), (v1, .inl (z 0, 26, .inl (cSet 26 (cSet 26 pl (cAt 30 lo x) (cAt 26 pl i)) i x))), (c2, .inr (1, [.ref v2])), (v2, .inl (z 0, 30, .inl (cSet 30 (cSet 30 lo (cAt 26 pl i) (cAt 30 lo x)) x i)))] H := hP
    have hD : va_D A [(h, .inr (0, [.ref c1, .ref c2])), (c1, .inr (1, [.ref v1])), (v1, .inl (z 0, 26, .inl (cSet 26 (cSet 26 pl (cAt 30 lo x) (cAt 26 pl i)) i x))), (c2, .inr (1, [.ref v2])), (v2, .inl (z 0, 30, .inl (cSet 30 (cSet 30 lo (cAt 26 pl i) (cAt 30 lo x)) x i)))] := hD
    refine lv_iload_n hx hb dX0_move_62 rfl (lv_at hl 1 rfl) ?_
    exact wr_i hx hb hr hlocks hP hD hS dX0_move_63 (by simp only [bMovP, bMovL, if_neg c_1, ↓reduceIte]) (rfl) (Nat.le_refl _) (Nat.le_refl _)
