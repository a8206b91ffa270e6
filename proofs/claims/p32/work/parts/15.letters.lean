/-! ===== Speeds.falls, LettersIn ===== -/
set_option maxRecDepth 20000 in
theorem in_X5_fallsAtTheEnd_X5 : ∀ w ∈ wsX50, w ∈ wsX5_fallsAtTheEnd := mem_r _ [9, 10] (by decide +kernel)
theorem hd_X5_fallsAtTheEnd : yX5_fallsAtTheEnd.cls = RX5 ∧ yX5_fallsAtTheEnd.cls ≠ "java/lang/invoke/MethodHandle" ∧ yX5_fallsAtTheEnd.cls ≠ "java/lang/invoke/VarHandle" ∧ (parseMethodDescriptor yX5_fallsAtTheEnd.desc).map (fun d => d.parameters.length) = some 0 := by decide +kernel
set_option maxHeartbeats 4000000 in
set_option maxRecDepth 100000 in
theorem c_X5_fallsAtTheEnd (l : Launch) (D : va_G) (z : Nat → ClassId) (q : Nat → Nat) (h : Nat) (c1 : Nat) (v1 : Nat) (kp : Nat → Int32) (zz : Int32) (zn : Nat) (hzz : zz = nI zn) (hz : zn ≤ 100) : RD l yX5_fallsAtTheEnd wsX5_fallsAtTheEnd ({ frames := 1, cells := 0, slots := 0, locals := 21 } : Room) D z q [.ref h] [(h, .inr (5, [.ref c1, .int zz])), (c1, .inr (1, [.ref v1])), (v1, .inl (z 0, 100, .inl kp))] (some (.int (nI (pFall kp (zn - 1))))) := by
  refine RD_mk (cc := cX5_fallsAtTheEnd) (maxL := 3) (ret := (some .int)) (by decide) rfl (Nat.le_of_ble_eq_true rfl) ?_
  intro p e s m below meth c hx hb hr hml hts hown hlocks hP hE hS hA ls hl
  have hK := hE.1
  have hown : s.vm.findClass RX5 = some m.cls := hown
  have hl : lv_has ls 3 [(0, .ref h)] := hl
  have hy0 : zz - 1 = nI (zn - 1) ∨ (zz - 1 = -1 ∧ zn - 1 = 0) := by
    subst hzz
    cases zn with
    | zero => exact Or.inr ⟨by decide, rfl⟩
    | succ k => exact Or.inl (nI_m1 k)
  refine lv_iconst (v := 0) hx hb dX5_fallsAtTheEnd_0 (by decide) ?_
  refine lv_istore_n (lv' := [(1, .int 0), (0, .ref h)]) hx hb dX5_fallsAtTheEnd_1 rfl hl (by decide) rfl (fun ls hl => ?_)
  refine lv_aload_n hx hb dX5_fallsAtTheEnd_2 rfl (lv_at hl 1 rfl) ?_
  refine va_get (D := D) (ci := 5) (v := .int zz) (C := RX5) (T := TX5) (N := 2) hx hb hts in_X5_fallsAtTheEnd_X5 hown hK hP 0 rfl rfl 1 (by decide) (hts (.fieldLink RX5 20 "TypingCoach$Speeds" "size" "I") (List.mem_of_getElem? (i := 1) rfl)) (fun _ h9 => h9) rfl dX5_fallsAtTheEnd_3 ?_
  refine lv_iconst (v := 1) hx hb dX5_fallsAtTheEnd_6 (by decide) ?_
  refine lv_isub hx hb dX5_fallsAtTheEnd_7 ?_
  refine lv_istore_n (lv' := [(2, .int (zz - 1)), (1, .int 0), (0, .ref h)]) hx hb dX5_fallsAtTheEnd_8 rfl hl (by decide) rfl (fun ls hl => ?_)
  have loop_1 : ∀ (n : Nat) (k : Nat) (r : Nat) (x : Int32) (y : Int32), k ≤ 100 → k < n → (y = nI k ∨ (y = -1 ∧ k = 0)) → x = nI r → r + pFall kp k = pFall kp (zn - 1) → ∀ ls : Array Slot, lv_has ls 3 [(2, .int y), (1, .int x), (0, .ref h)] → W p l e ({ frames := 1, cells := 0, slots := 0, locals := 21 } : Room) s m ([.ref h] : List Value).toArray below meth c s.heap [] 0 0 (MQ below (QR (some (.int (nI (pFall kp (zn - 1)))))) ([.ref h] : List Value).toArray s 0 0 (fun _ => False)) (F0 m 9 ls []) := by
    intro n
    induction n with
    | zero => intro k r x y hk hf hy hxr hrk; exact absurd hf (by omega)
    | succ n ih =>
      intro k r x y hk hf hy hxr hrk ls hl
      refine lv_iload_n hx hb dX5_fallsAtTheEnd_9 rfl (lv_at hl 0 rfl) ?_
      refine lv_if_le (tgt := 43) hx hb dX5_fallsAtTheEnd_10 (by decide) (fun c_2 => ?_) (fun c_2 => ?_)
      · refine lv_iload_n hx hb dX5_fallsAtTheEnd_43 rfl (lv_at hl 1 rfl) ?_
        exact rd_i hx hb hr hlocks dX5_fallsAtTheEnd_44 (pFall_e1 hy hxr hrk hk c_2)
      · refine lv_aload_n hx hb dX5_fallsAtTheEnd_13 rfl (lv_at hl 2 rfl) ?_
        refine va_get (D := D) (ci := 5) (v := .ref c1) (C := RX5) (T := TX5) (N := 2) hx hb hts in_X5_fallsAtTheEnd_X5 hown hK hP 0 rfl rfl 0 (by decide) (hts (.fieldLink RX5 14 "TypingCoach$Speeds" "kept" "LTypingCoach$Cells;") (List.mem_of_getElem? (i := 2) rfl)) (fun _ h9 => h9) rfl dX5_fallsAtTheEnd_14 ?_
        refine lv_iload_n hx hb dX5_fallsAtTheEnd_17 rfl (lv_at hl 0 rfl) ?_
        refine rdV (As := [.int y]) (rest := []) ⟨hx, hb, hml, hown, hts⟩ (c_X1_at l D z q c1 v1 100 kp y (Nat.le_of_ble_eq_true rfl)) (cwV 1 hts gX5_fallsAtTheEnd_X1_at rfl rfl rfl hd_X1_at ⟨Nat.le_of_ble_eq_true rfl, Nat.le_of_ble_eq_true rfl⟩) hE hS hA hP [1, 2] rfl rfl rfl rfl rfl hl.1 rfl (Nat.le_of_ble_eq_true rfl) dX5_fallsAtTheEnd_18 ⟨(Nat.le_of_ble_eq_true rfl), (Nat.le_of_ble_eq_true rfl)⟩ ?_
        refine lv_aload_n hx hb dX5_fallsAtTheEnd_21 rfl (lv_at hl 2 rfl) ?_
        refine va_get (D := D) (ci := 5) (v := .ref c1) (C := RX5) (T := TX5) (N := 2) hx hb hts in_X5_fallsAtTheEnd_X5 hown hK hP 0 rfl rfl 0 (by decide) (hts (.fieldLink RX5 14 "TypingCoach$Speeds" "kept" "LTypingCoach$Cells;") (List.mem_of_getElem? (i := 2) rfl)) (fun _ h9 => h9) rfl dX5_fallsAtTheEnd_22 ?_
        refine lv_iload_n hx hb dX5_fallsAtTheEnd_25 rfl (lv_at hl 0 rfl) ?_
        refine lv_iconst (v := 1) hx hb dX5_fallsAtTheEnd_26 (by decide) ?_
        refine lv_isub hx hb dX5_fallsAtTheEnd_27 ?_
        refine rdV (As := [.int (y - 1)]) (rest := [.int (cAt 100 kp y)]) ⟨hx, hb, hml, hown, hts⟩ (c_X1_at l D z q c1 v1 100 kp (y - 1) (Nat.le_of_ble_eq_true rfl)) (cwV 1 hts gX5_fallsAtTheEnd_X1_at rfl rfl rfl hd_X1_at ⟨Nat.le_of_ble_eq_true rfl, Nat.le_of_ble_eq_true rfl⟩) hE hS hA hP [1, 2] rfl rfl rfl rfl rfl hl.1 rfl (Nat.le_of_ble_eq_true rfl) dX5_fallsAtTheEnd_28 ⟨(Nat.le_of_ble_eq_true rfl), (Nat.le_of_ble_eq_true rfl)⟩ ?_
        refine lv_icmp_ge (tgt := 43) hx hb dX5_fallsAtTheEnd_31 (by decide) (fun c_3 => ?_) (fun c_3 => ?_)
        · refine lv_iload_n hx hb dX5_fallsAtTheEnd_43 rfl (lv_at hl 1 rfl) ?_
          exact rd_i hx hb hr hlocks dX5_fallsAtTheEnd_44 (pFall_e2 hy hxr hrk c_2 c_3)
        · refine lv_iinc (v := x + 1) (lv' := [(1, .int (x + 1)), (2, .int y), (0, .ref h)]) hx hb dX5_fallsAtTheEnd_34 hl (k := 1) rfl (rfl) (by decide) rfl (fun ls hl => ?_)
          refine lv_iinc (v := y + (-1)) (lv' := [(2, .int (y + (-1))), (1, .int (x + 1)), (0, .ref h)]) hx hb dX5_fallsAtTheEnd_37 hl (k := 1) rfl (rfl) (by decide) rfl (fun ls hl => ?_)
          refine lv_goto (tgt := 9) hx hb dX5_fallsAtTheEnd_40 (by decide) ?_
          obtain ⟨k9, rfl, hy9, hx9, hr9⟩ := pFall_s hy hxr hrk c_2 c_3
          exact ih k9 (r + 1) (x + 1) (y + (-1)) (by omega) (by omega) (Or.inl hy9) hx9 hr9 ls (lv_sub hl [0, 1, 2] rfl)
  exact loop_1 101 (zn - 1) 0 0 (zz - 1) (by omega) (by omega) hy0 rfl (by omega) ls (lv_sub hl [0, 1, 2] rfl)
set_option maxRecDepth 20000 in
theorem in_X4_contains_X4 : ∀ w ∈ wsX40, w ∈ wsX4_contains := mem_r _ [2, 3] (by decide +kernel)
theorem hd_X4_contains : yX4_contains.cls = RX4 ∧ yX4_contains.cls ≠ "java/lang/invoke/MethodHandle" ∧ yX4_contains.cls ≠ "java/lang/invoke/VarHandle" ∧ (parseMethodDescriptor yX4_contains.desc).map (fun d => d.parameters.length) = some 1 := by decide +kernel
set_option maxHeartbeats 4000000 in
set_option maxRecDepth 100000 in
theorem c_X4_contains (l : Launch) (D : va_G) (z : Nat → ClassId) (q : Nat → Nat) (h : Nat) (a1 : Nat) (g : Nat) (ia : Nat → Int32) (i : Int32)  : RD l yX4_contains wsX4_contains ({ frames := 0, cells := 0, slots := 0, locals := 0 } : Room) D z q [.ref h, .int i] [(h, .inr (4, [.ref a1, .ref g])), (a1, .inl (z 1, 26, .inl ia))] (some (.int (lIn ia i))) := by
  refine RD_mk (cc := cX4_contains) (maxL := 2) (ret := (some .boolean)) (by decide) rfl (Nat.le_of_ble_eq_true rfl) ?_
  intro p e s m below meth c hx hb hr hml hts hown hlocks hP hE hS hA ls hl
  have hK := hE.1
  have hown : s.vm.findClass RX4 = some m.cls := hown
  have hl : lv_has ls 2 [(0, .ref h), (1, .int i)] := hl
  refine lv_iload_n hx hb dX4_contains_0 rfl (lv_at hl 1 rfl) ?_
  refine lv_if_lt (tgt := 26) hx hb dX4_contains_1 (by decide) (fun c_1 => ?_) (fun c_1 => ?_)
  · refine lv_iconst (v := 0) hx hb dX4_contains_26 (by decide) ?_
    exact rd_z hx hb hr hlocks dX4_contains_27 (by decide) (by simp only [lIn, if_pos c_1, ↓reduceIte])
  · refine lv_iload_n hx hb dX4_contains_4 rfl (lv_at hl 1 rfl) ?_
    refine lv_aload_n hx hb dX4_contains_5 rfl (lv_at hl 0 rfl) ?_
    refine va_get (D := D) (ci := 4) (v := .ref a1) (C := RX4) (T := TX4) (N := 2) hx hb hts in_X4_contains_X4 hown hK hP 0 rfl rfl 0 (by decide) (hts (.fieldLink RX4 9 "TypingCoach$LettersIn" "in" "[Z") (List.mem_of_getElem? (i := 1) rfl)) (fun _ h9 => h9) rfl dX4_contains_6 ?_
    refine va_alen (v := 26) hx hb hK hP 1 1 rfl rfl rfl dX4_contains_9 ?_
    refine lv_icmp_ge (tgt := 26) hx hb dX4_contains_10 (by decide) (fun c_2 => ?_) (fun c_2 => ?_)
    · refine lv_iconst (v := 0) hx hb dX4_contains_26 (by decide) ?_
      exact rd_z hx hb hr hlocks dX4_contains_27 (by decide) (by simp only [lIn, if_neg c_1, if_pos c_2, ↓reduceIte])
    · refine lv_aload_n hx hb dX4_contains_13 rfl (lv_at hl 0 rfl) ?_
      refine va_get (D := D) (ci := 4) (v := .ref a1) (C := RX4) (T := TX4) (N := 2) hx hb hts in_X4_contains_X4 hown hK hP 0 rfl rfl 0 (by decide) (hts (.fieldLink RX4 9 "TypingCoach$LettersIn" "in" "[Z") (List.mem_of_getElem? (i := 1) rfl)) (fun _ h9 => h9) rfl dX4_contains_14 ?_
      refine lv_iload_n hx hb dX4_contains_17 rfl (lv_at hl 1 rfl) ?_
      refine va_zald hx hb hK hP 1 1 rfl rfl (in_of (n := 26) (Nat.le_of_ble_eq_true rfl) c_1 c_2) dX4_contains_18 ?_
      refine lv_if_eq (tgt := 26) hx hb dX4_contains_19 (by decide) (fun c_3 => ?_) (fun c_3 => ?_)
      · refine lv_iconst (v := 0) hx hb dX4_contains_26 (by decide) ?_
        exact rd_z hx hb hr hlocks dX4_contains_27 (by decide) (by simp only [lIn, if_neg c_1, if_neg c_2, if_pos c_3, ↓reduceIte])
      · refine lv_iconst (v := 1) hx hb dX4_contains_22 (by decide) ?_
        refine lv_goto (tgt := 27) hx hb dX4_contains_23 (by decide) ?_
        exact rd_z hx hb hr hlocks dX4_contains_27 (by decide) (by simp only [lIn, if_neg c_1, if_neg c_2, if_neg c_3, ↓reduceIte])
set_option maxRecDepth 20000 in
theorem in_X4_weakestOfAll_X4 : ∀ w ∈ wsX40, w ∈ wsX4_weakestOfAll := mem_r _ [21, 22] (by decide +kernel)
theorem hd_X4_weakestOfAll : yX4_weakestOfAll.cls = RX4 ∧ yX4_weakestOfAll.cls ≠ "java/lang/invoke/MethodHandle" ∧ yX4_weakestOfAll.cls ≠ "java/lang/invoke/VarHandle" ∧ (parseMethodDescriptor yX4_weakestOfAll.desc).map (fun d => d.parameters.length) = some 0 := by decide +kernel
set_option maxHeartbeats 4000000 in
set_option maxRecDepth 100000 in
theorem c_X4_weakestOfAll (l : Launch) (D : va_G) (z : Nat → ClassId) (q : Nat → Nat) (h : Nat) (a1 : Nat) (g : Nat) (ia : Nat → Int32) (c1 : Nat) (v1 : Nat) (c2 : Nat) (v2 : Nat) (c3 : Nat) (v3 : Nat) (c4 : Nat) (v4 : Nat) (ct : Nat → Int32) (ti : Nat → Int32) (sh : Nat → Int32) (pr : Nat → Int32) (wt : Int32) (wh : Int32)  : RD l yX4_weakestOfAll wsX4_weakestOfAll ({ frames := 2, cells := 0, slots := 0, locals := 43 } : Room) D z q [.ref h] [(h, .inr (4, [.ref a1, .ref g])), (a1, .inl (z 1, 26, .inl ia)), (g, .inr (2, [.ref c1, .ref c2, .ref c3, .ref c4, .int wt, .int wh])), (c1, .inr (1, [.ref v1])), (v1, .inl (z 0, 26, .inl ct)), (c2, .inr (1, [.ref v2])), (v2, .inl (z 0, 26, .inl ti)), (c3, .inr (1, [.ref v3])), (v3, .inl (z 0, 26, .inl sh)), (c4, .inr (1, [.ref v4])), (v4, .inl (z 0, 676, .inl pr))] (some (.int (lWk ia ti sh 25))) := by
  refine RD_mk (cc := cX4_weakestOfAll) (maxL := 3) (ret := (some .int)) (by decide) rfl (Nat.le_of_ble_eq_true rfl) ?_
  intro p e s m below meth c hx hb hr hml hts hown hlocks hP hE hS hA ls hl
  have hK := hE.1
  have hown : s.vm.findClass RX4 = some m.cls := hown
  have hl : lv_has ls 3 [(0, .ref h)] := hl
  refine lv_iconst (v := 0) hx hb dX4_weakestOfAll_0 (by decide) ?_
  refine lv_istore_n (lv' := [(1, .int 0), (0, .ref h)]) hx hb dX4_weakestOfAll_1 rfl hl (by decide) rfl (fun ls hl => ?_)
  refine lv_iconst (v := 1) hx hb dX4_weakestOfAll_2 (by decide) ?_
  refine lv_istore_n (lv' := [(2, .int 1), (1, .int 0), (0, .ref h)]) hx hb dX4_weakestOfAll_3 rfl hl (by decide) rfl (fun ls hl => ?_)
  have loop_1 : ∀ (n : Nat) (j : Nat) (x : Int32), j ≤ 25 → 25 < j + n → x = lWk ia ti sh j → ∀ ls : Array Slot, lv_has ls 3 [(2, .int (nI (j + 1))), (1, .int x), (0, .ref h)] → W p l e ({ frames := 2, cells := 0, slots := 0, locals := 43 } : Room) s m ([.ref h] : List Value).toArray below meth c s.heap [] 0 0 (MQ below (QR (some (.int (lWk ia ti sh 25)))) ([.ref h] : List Value).toArray s 0 0 (fun _ => False)) (F0 m 4 ls []) := by
    intro n
    induction n with
    | zero => intro j x hj hf hxj; exact absurd hf (by omega)
    | succ n ih =>
      intro j x hj hf hxj ls hl
      refine lv_iload_n hx hb dX4_weakestOfAll_4 rfl (lv_at hl 0 rfl) ?_
      refine lv_bipush (v := 26) hx hb dX4_weakestOfAll_5 (by decide) ?_
      refine lv_icmp_ge (tgt := 38) hx hb dX4_weakestOfAll_7 (by decide) (fun c_2 => ?_) (fun c_2 => ?_)
      · have hj2 : j = 25 := by have := lpx (n := 26) c_2 (by omega) (Nat.le_of_ble_eq_true rfl) rfl; omega
        refine lv_iload_n hx hb dX4_weakestOfAll_38 rfl (lv_at hl 1 rfl) ?_
        exact rd_i hx hb hr hlocks dX4_weakestOfAll_39 (by rw [hxj, hj2])
      · have hjl : j < 25 := by have := lpn (n := 26) c_2 (by omega) (Nat.le_of_ble_eq_true rfl) rfl; omega
        refine lv_aload_n hx hb dX4_weakestOfAll_10 rfl (lv_at hl 2 rfl) ?_
        refine lv_iload_n hx hb dX4_weakestOfAll_11 rfl (lv_at hl 0 rfl) ?_
        refine rdV (As := [.int (nI (j + 1))]) (rest := []) ⟨hx, hb, hml, hown, hts⟩ (c_X4_contains l D z q h a1 g ia (nI (j + 1))) (cwV 1 hts gX4_weakestOfAll_X4_contains rfl rfl rfl hd_X4_contains ⟨Nat.le_of_ble_eq_true rfl, Nat.le_of_ble_eq_true rfl⟩) hE hS hA hP [0, 1] rfl rfl rfl rfl rfl hl.1 rfl (Nat.le_of_ble_eq_true rfl) dX4_weakestOfAll_12 ⟨(Nat.le_of_ble_eq_true rfl), (Nat.le_of_ble_eq_true rfl)⟩ ?_
        refine lv_if_eq (tgt := 32) hx hb dX4_weakestOfAll_15 (by decide) (fun c_3 => ?_) (fun c_3 => ?_)
        · refine lv_iinc (v := nI (j + 1 + 1)) (lv' := [(2, .int (nI (j + 1 + 1))), (1, .int x), (0, .ref h)]) hx hb dX4_weakestOfAll_32 hl (k := 0) rfl (nI_1 _) (by decide) rfl (fun ls hl => ?_)
          refine lv_goto (tgt := 4) hx hb dX4_weakestOfAll_35 (by decide) ?_
          exact ih (j + 1) x (by omega) (by omega) (by rw [lWk, ← hxj]; simp only [if_neg c_2, if_pos c_3, ↓reduceIte]) ls (lv_sub hl [0, 1, 2] rfl)
        · refine lv_aload_n hx hb dX4_weakestOfAll_18 rfl (lv_at hl 2 rfl) ?_
          refine va_get (D := D) (ci := 4) (v := .ref g) (C := RX4) (T := TX4) (N := 2) hx hb hts in_X4_weakestOfAll_X4 hown hK hP 0 rfl rfl 1 (by decide) (hts (.fieldLink RX4 15 "TypingCoach$LettersIn" "figures" "LTypingCoach$Figures;") (List.mem_of_getElem? (i := 1) rfl)) (fun _ h9 => h9) rfl dX4_weakestOfAll_19 ?_
          refine lv_iload_n hx hb dX4_weakestOfAll_22 rfl (lv_at hl 0 rfl) ?_
          refine lv_iload_n hx hb dX4_weakestOfAll_23 rfl (lv_at hl 1 rfl) ?_
          refine rdV (As := [.int (nI (j + 1)), .int x]) (rest := []) ⟨hx, hb, hml, hown, hts⟩ (c_X2_isWeaker l D z q g c1 v1 c2 v2 c3 v3 c4 v4 ct ti sh pr wt wh (nI (j + 1)) x) (cwV 2 hts gX4_weakestOfAll_X2_isWeaker rfl rfl rfl hd_X2_isWeaker ⟨Nat.le_of_ble_eq_true rfl, Nat.le_of_ble_eq_true rfl⟩) hE hS hA hP [2, 3, 4, 5, 6, 7, 8, 9, 10] rfl rfl rfl rfl rfl hl.1 rfl (Nat.le_of_ble_eq_true rfl) dX4_weakestOfAll_24 ⟨(Nat.le_of_ble_eq_true rfl), (Nat.le_of_ble_eq_true rfl)⟩ ?_
          refine lv_if_eq (tgt := 32) hx hb dX4_weakestOfAll_27 (by decide) (fun c_5 => ?_) (fun c_5 => ?_)
          · refine lv_iinc (v := nI (j + 1 + 1)) (lv' := [(2, .int (nI (j + 1 + 1))), (1, .int x), (0, .ref h)]) hx hb dX4_weakestOfAll_32 hl (k := 0) rfl (nI_1 _) (by decide) rfl (fun ls hl => ?_)
            refine lv_goto (tgt := 4) hx hb dX4_weakestOfAll_35 (by decide) ?_
            exact ih (j + 1) x (by omega) (by omega) (by rw [lWk, ← hxj]; simp only [if_neg c_2, if_neg c_3, if_pos c_5, ↓reduceIte]) ls (lv_sub hl [0, 1, 2] rfl)
          · refine lv_iload_n hx hb dX4_weakestOfAll_30 rfl (lv_at hl 0 rfl) ?_
            refine lv_istore_n (lv' := [(1, .int (nI (j + 1))), (2, .int (nI (j + 1))), (0, .ref h)]) hx hb dX4_weakestOfAll_31 rfl hl (by decide) rfl (fun ls hl => ?_)
            refine lv_iinc (v := nI (j + 1 + 1)) (lv' := [(2, .int (nI (j + 1 + 1))), (1, .int (nI (j + 1))), (0, .ref h)]) hx hb dX4_weakestOfAll_32 hl (k := 1) rfl (nI_1 _) (by decide) rfl (fun ls hl => ?_)
            refine lv_goto (tgt := 4) hx hb dX4_weakestOfAll_35 (by decide) ?_
            exact ih (j + 1) (nI (j + 1)) (by omega) (by omega) (by rw [lWk, ← hxj]; simp only [if_neg c_2, if_neg c_3, if_neg c_5, ↓reduceIte]) ls (lv_sub hl [0, 1, 2] rfl)
  exact loop_1 26 0 0 (by omega) (by omega) rfl ls (lv_sub hl [0, 1, 2] rfl)
set_option maxRecDepth 20000 in
theorem in_X4_slowestBehind_X4 : ∀ w ∈ wsX40, w ∈ wsX4_slowestBehind := mem_r _ [23, 24] (by decide +kernel)
theorem hd_X4_slowestBehind : yX4_slowestBehind.cls = RX4 ∧ yX4_slowestBehind.cls ≠ "java/lang/invoke/MethodHandle" ∧ yX4_slowestBehind.cls ≠ "java/lang/invoke/VarHandle" ∧ (parseMethodDescriptor yX4_slowestBehind.desc).map (fun d => d.parameters.length) = some 1 := by decide +kernel
set_option maxHeartbeats 4000000 in
set_option maxRecDepth 100000 in
theorem c_X4_slowestBehind (l : Launch) (D : va_G) (z : Nat → ClassId) (q : Nat → Nat) (h : Nat) (a1 : Nat) (g : Nat) (ia : Nat → Int32) (c1 : Nat) (v1 : Nat) (c2 : Nat) (v2 : Nat) (c3 : Nat) (v3 : Nat) (c4 : Nat) (v4 : Nat) (ct : Nat → Int32) (ti : Nat → Int32) (sh : Nat → Int32) (pr : Nat → Int32) (wt : Int32) (wh : Int32) (b : Int32)  : RD l yX4_slowestBehind wsX4_slowestBehind ({ frames := 2, cells := 0, slots := 0, locals := 43 } : Room) D z q [.ref h, .int b] [(h, .inr (4, [.ref a1, .ref g])), (a1, .inl (z 1, 26, .inl ia)), (g, .inr (2, [.ref c1, .ref c2, .ref c3, .ref c4, .int wt, .int wh])), (c1, .inr (1, [.ref v1])), (v1, .inl (z 0, 26, .inl ct)), (c2, .inr (1, [.ref v2])), (v2, .inl (z 0, 26, .inl ti)), (c3, .inr (1, [.ref v3])), (v3, .inl (z 0, 26, .inl sh)), (c4, .inr (1, [.ref v4])), (v4, .inl (z 0, 676, .inl pr))] (some (.int ((lSb ia pr b 26).1))) := by
  refine RD_mk (cc := cX4_slowestBehind) (maxL := 6) (ret := (some .int)) (by decide) rfl (Nat.le_of_ble_eq_true rfl) ?_
  intro p e s m below meth c hx hb hr hml hts hown hlocks hP hE hS hA ls hl
  have hK := hE.1
  have hown : s.vm.findClass RX4 = some m.cls := hown
  have hl : lv_has ls 6 [(0, .ref h), (1, .int b)] := hl
  refine lv_iconst (v := (-1)) hx hb dX4_slowestBehind_0 (by decide) ?_
  refine lv_istore_n (lv' := [(2, .int (-1)), (0, .ref h), (1, .int b)]) hx hb dX4_slowestBehind_1 rfl hl (by decide) rfl (fun ls hl => ?_)
  refine lv_iconst (v := (-1)) hx hb dX4_slowestBehind_2 (by decide) ?_
  refine lv_istore_n (lv' := [(3, .int (-1)), (2, .int (-1)), (0, .ref h), (1, .int b)]) hx hb dX4_slowestBehind_3 rfl hl (by decide) rfl (fun ls hl => ?_)
  refine lv_iconst (v := 0) hx hb dX4_slowestBehind_4 (by decide) ?_
  refine lv_istore (lv' := [(4, .int 0), (3, .int (-1)), (2, .int (-1)), (0, .ref h), (1, .int b)]) hx hb dX4_slowestBehind_5 hl (by decide) rfl (fun ls hl => ?_)
  have loop_1 : ∀ (n : Nat) (j : Nat) (x : Int32) (y : Int32), j ≤ 26 → 26 < j + n → x = (lSb ia pr b j).1 → y = (lSb ia pr b j).2 → ∀ ls : Array Slot, lv_has ls 6 [(4, .int (nI j)), (2, .int x), (3, .int y), (0, .ref h), (1, .int b)] → W p l e ({ frames := 2, cells := 0, slots := 0, locals := 43 } : Room) s m ([.ref h, .int b] : List Value).toArray below meth c s.heap [] 0 0 (MQ below (QR (some (.int ((lSb ia pr b 26).1)))) ([.ref h, .int b] : List Value).toArray s 0 0 (fun _ => False)) (F0 m 7 ls []) := by
    intro n
    induction n with
    | zero => intro j x y hj hf hxj hyj; exact absurd hf (by omega)
    | succ n ih =>
      intro j x y hj hf hxj hyj ls hl
      refine lv_iload hx hb dX4_slowestBehind_7 (lv_at hl 0 rfl) ?_
      refine lv_bipush (v := 26) hx hb dX4_slowestBehind_9 (by decide) ?_
      refine lv_icmp_ge (tgt := 59) hx hb dX4_slowestBehind_11 (by decide) (fun c_2 => ?_) (fun c_2 => ?_)
      · have hj2 : j = 26 := lpx c_2 hj (Nat.le_of_ble_eq_true rfl) rfl
        refine lv_iload_n hx hb dX4_slowestBehind_59 rfl (lv_at hl 1 rfl) ?_
        exact rd_i hx hb hr hlocks dX4_slowestBehind_60 (by rw [hxj, hj2])
      · have hjl : j < 26 := lpn c_2 hj (Nat.le_of_ble_eq_true rfl) rfl
        refine lv_aload_n hx hb dX4_slowestBehind_14 rfl (lv_at hl 3 rfl) ?_
        refine va_get (D := D) (ci := 4) (v := .ref g) (C := RX4) (T := TX4) (N := 2) hx hb hts in_X4_slowestBehind_X4 hown hK hP 0 rfl rfl 1 (by decide) (hts (.fieldLink RX4 15 "TypingCoach$LettersIn" "figures" "LTypingCoach$Figures;") (List.mem_of_getElem? (i := 1) rfl)) (fun _ h9 => h9) rfl dX4_slowestBehind_15 ?_
        refine lv_iload_n hx hb dX4_slowestBehind_18 rfl (lv_at hl 4 rfl) ?_
        refine lv_iload hx hb dX4_slowestBehind_19 (lv_at hl 0 rfl) ?_
        refine rdV (As := [.int b, .int (nI j)]) (rest := []) ⟨hx, hb, hml, hown, hts⟩ (c_X2_timeOfPair l D z q g c1 v1 c2 v2 c3 v3 c4 v4 ct ti sh pr wt wh b (nI j)) (cwV 2 hts gX4_slowestBehind_X2_timeOfPair rfl rfl rfl hd_X2_timeOfPair ⟨Nat.le_of_ble_eq_true rfl, Nat.le_of_ble_eq_true rfl⟩) hE hS hA hP [2, 3, 4, 5, 6, 7, 8, 9, 10] rfl rfl rfl rfl rfl hl.1 rfl (Nat.le_of_ble_eq_true rfl) dX4_slowestBehind_21 ⟨(Nat.le_of_ble_eq_true rfl), (Nat.le_of_ble_eq_true rfl)⟩ ?_
        refine lv_istore (lv' := [(5, .int (cAt 676 pr (fPair b (nI j)))), (4, .int (nI j)), (2, .int x), (3, .int y), (0, .ref h), (1, .int b)]) hx hb dX4_slowestBehind_24 hl (by decide) rfl (fun ls hl => ?_)
        refine lv_aload_n hx hb dX4_slowestBehind_26 rfl (lv_at hl 4 rfl) ?_
        refine lv_iload hx hb dX4_slowestBehind_27 (lv_at hl 1 rfl) ?_
        refine rdV (As := [.int (nI j)]) (rest := []) ⟨hx, hb, hml, hown, hts⟩ (c_X4_contains l D z q h a1 g ia (nI j)) (cwV 1 hts gX4_slowestBehind_X4_contains rfl rfl rfl hd_X4_contains ⟨Nat.le_of_ble_eq_true rfl, Nat.le_of_ble_eq_true rfl⟩) hE hS hA hP [0, 1] rfl rfl rfl rfl rfl hl.1 rfl (Nat.le_of_ble_eq_true rfl) dX4_slowestBehind_29 ⟨(Nat.le_of_ble_eq_true rfl), (Nat.le_of_ble_eq_true rfl)⟩ ?_
        refine lv_if_eq (tgt := 53) hx hb dX4_slowestBehind_32 (by decide) (fun c_3 => ?_) (fun c_3 => ?_)
        · refine lv_iinc (v := nI (j + 1)) (lv' := [(4, .int (nI (j + 1))), (5, .int (cAt 676 pr (fPair b (nI j)))), (2, .int x), (3, .int y), (0, .ref h), (1, .int b)]) hx hb dX4_slowestBehind_53 hl (k := 1) rfl (nI_1 j) (by decide) rfl (fun ls hl => ?_)
          refine lv_goto (tgt := 7) hx hb dX4_slowestBehind_56 (by decide) ?_
          exact ih (j + 1) x y (by omega) (by omega) (by rw [lSb]; simp only [← hyj, ← hxj, if_neg c_2, if_pos c_3]) (by rw [lSb]; simp only [← hyj, ← hxj, if_neg c_2, if_pos c_3]) ls (lv_sub hl [0, 2, 3, 4, 5] rfl)
        · refine lv_iload hx hb dX4_slowestBehind_35 (lv_at hl 1 rfl) ?_
          refine lv_iload_n hx hb dX4_slowestBehind_37 rfl (lv_at hl 5 rfl) ?_
          refine lv_icmp_eq (tgt := 53) hx hb dX4_slowestBehind_38 (by decide) (fun c_5 => ?_) (fun c_5 => ?_)
          · refine lv_iinc (v := nI (j + 1)) (lv' := [(4, .int (nI (j + 1))), (5, .int (cAt 676 pr (fPair b (nI j)))), (2, .int x), (3, .int y), (0, .ref h), (1, .int b)]) hx hb dX4_slowestBehind_53 hl (k := 1) rfl (nI_1 j) (by decide) rfl (fun ls hl => ?_)
            refine lv_goto (tgt := 7) hx hb dX4_slowestBehind_56 (by decide) ?_
            exact ih (j + 1) x y (by omega) (by omega) (by rw [lSb]; simp only [← hyj, ← hxj, if_neg c_2, if_neg c_3, if_pos c_5]) (by rw [lSb]; simp only [← hyj, ← hxj, if_neg c_2, if_neg c_3, if_pos c_5]) ls (lv_sub hl [0, 2, 3, 4, 5] rfl)
          · refine lv_iload hx hb dX4_slowestBehind_41 (lv_at hl 0 rfl) ?_
            refine lv_iload_n hx hb dX4_slowestBehind_43 rfl (lv_at hl 3 rfl) ?_
            refine lv_icmp_le (tgt := 53) hx hb dX4_slowestBehind_44 (by decide) (fun c_7 => ?_) (fun c_7 => ?_)
            · refine lv_iinc (v := nI (j + 1)) (lv' := [(4, .int (nI (j + 1))), (5, .int (cAt 676 pr (fPair b (nI j)))), (2, .int x), (3, .int y), (0, .ref h), (1, .int b)]) hx hb dX4_slowestBehind_53 hl (k := 1) rfl (nI_1 j) (by decide) rfl (fun ls hl => ?_)
              refine lv_goto (tgt := 7) hx hb dX4_slowestBehind_56 (by decide) ?_
              exact ih (j + 1) x y (by omega) (by omega) (by rw [lSb]; simp only [← hyj, ← hxj, if_neg c_2, if_neg c_3, if_neg c_5, if_pos c_7]) (by rw [lSb]; simp only [← hyj, ← hxj, if_neg c_2, if_neg c_3, if_neg c_5, if_pos c_7]) ls (lv_sub hl [0, 2, 3, 4, 5] rfl)
            · refine lv_iload hx hb dX4_slowestBehind_47 (lv_at hl 1 rfl) ?_
              refine lv_istore_n (lv' := [(2, .int (nI j)), (5, .int (cAt 676 pr (fPair b (nI j)))), (4, .int (nI j)), (3, .int y), (0, .ref h), (1, .int b)]) hx hb dX4_slowestBehind_49 rfl hl (by decide) rfl (fun ls hl => ?_)
              refine lv_iload hx hb dX4_slowestBehind_50 (lv_at hl 1 rfl) ?_
              refine lv_istore_n (lv' := [(3, .int (cAt 676 pr (fPair b (nI j)))), (2, .int (nI j)), (5, .int (cAt 676 pr (fPair b (nI j)))), (4, .int (nI j)), (0, .ref h), (1, .int b)]) hx hb dX4_slowestBehind_52 rfl hl (by decide) rfl (fun ls hl => ?_)
              refine lv_iinc (v := nI (j + 1)) (lv' := [(4, .int (nI (j + 1))), (3, .int (cAt 676 pr (fPair b (nI j)))), (2, .int (nI j)), (5, .int (cAt 676 pr (fPair b (nI j)))), (0, .ref h), (1, .int b)]) hx hb dX4_slowestBehind_53 hl (k := 3) rfl (nI_1 j) (by decide) rfl (fun ls hl => ?_)
              refine lv_goto (tgt := 7) hx hb dX4_slowestBehind_56 (by decide) ?_
              exact ih (j + 1) (nI j) (cAt 676 pr (fPair b (nI j))) (by omega) (by omega) (by rw [lSb]; simp only [← hyj, ← hxj, if_neg c_2, if_neg c_3, if_neg c_5, if_neg c_7]) (by rw [lSb]; simp only [← hyj, ← hxj, if_neg c_2, if_neg c_3, if_neg c_5, if_neg c_7]) ls (lv_sub hl [0, 2, 1, 4, 5] rfl)
  exact loop_1 27 0 (-1) (-1) (by omega) (by omega) rfl rfl ls (lv_sub hl [0, 2, 1, 3, 4] rfl)
set_option maxRecDepth 20000 in
theorem in_X4_takeOut_X4 : ∀ w ∈ wsX40, w ∈ wsX4_takeOut := mem_r _ [30, 31] (by decide +kernel)
theorem hd_X4_takeOut : yX4_takeOut.cls = RX4 ∧ yX4_takeOut.cls ≠ "java/lang/invoke/MethodHandle" ∧ yX4_takeOut.cls ≠ "java/lang/invoke/VarHandle" ∧ (parseMethodDescriptor yX4_takeOut.desc).map (fun d => d.parameters.length) = some 0 := by decide +kernel
set_option maxHeartbeats 4000000 in
set_option maxRecDepth 100000 in
theorem c_X4_takeOut (l : Launch) (D : va_G) (z : Nat → ClassId) (q : Nat → Nat) (h : Nat) (a1 : Nat) (g : Nat) (ia : Nat → Int32) (c1 : Nat) (v1 : Nat) (c2 : Nat) (v2 : Nat) (c3 : Nat) (v3 : Nat) (c4 : Nat) (v4 : Nat) (ct : Nat → Int32) (ti : Nat → Int32) (sh : Nat → Int32) (pr : Nat → Int32) (wt : Int32) (wh : Int32) (sz : Nat)  : WR l yX4_takeOut wsX4_takeOut ({ frames := 2, cells := 0, slots := 0, locals := 43 } : Room) D z q [.ref h] [(h, .inr (4, [.ref a1, .ref g])), (a1, .inl (z 1, 26, .inl ia)), (g, .inr (2, [.ref c1, .ref c2, .ref c3, .ref c4, .int wt, .int wh])), (c1, .inr (1, [.ref v1])), (v1, .inl (z 0, 26, .inl ct)), (c2, .inr (1, [.ref v2])), (v2, .inl (z 0, 26, .inl ti)), (c3, .inr (1, [.ref v3])), (v3, .inl (z 0, 26, .inl sh)), (c4, .inr (1, [.ref v4])), (v4, .inl (z 0, 676, .inl pr))] sz [(h, .inr (4, [.ref a1, .ref g])), (a1, .inl (z 1, 26, .inl (lMsk (lGo ia ct sh) 26 ia 0))), (g, .inr (2, [.ref c1, .ref c2, .ref c3, .ref c4, .int wt, .int wh])), (c1, .inr (1, [.ref v1])), (v1, .inl (z 0, 26, .inl (lMsk (lGo ia ct sh) 26 ct 0))), (c2, .inr (1, [.ref v2])), (v2, .inl (z 0, 26, .inl (lMsk (lGo ia ct sh) 26 ti 400))), (c3, .inr (1, [.ref v3])), (v3, .inl (z 0, 26, .inl (lMsk (lGo ia ct sh) 26 sh 0))), (c4, .inr (1, [.ref v4])), (v4, .inl (z 0, 676, .inl pr))] (some (.int (lAny (lGo ia ct sh) 26))) := by
  refine WR_mk (Qc := fun A => QW D [(h, .inr (4, [.ref a1, .ref g])), (a1, .inl (z 1, 26, .inl (lMsk (lGo ia ct sh) 26 ia 0))), (g, .inr (2, [.ref c1, .ref c2, .ref c3, .ref c4, .int wt, .int wh])), (c1, .inr (1, [.ref v1])), (v1, .inl (z 0, 26, .inl (lMsk (lGo ia ct sh) 26 ct 0))), (c2, .inr (1, [.ref v2])), (v2, .inl (z 0, 26, .inl (lMsk (lGo ia ct sh) 26 ti 400))), (c3, .inr (1, [.ref v3])), (v3, .inl (z 0, 26, .inl (lMsk (lGo ia ct sh) 26 sh 0))), (c4, .inr (1, [.ref v4])), (v4, .inl (z 0, 676, .inl pr))] A (some (.int (lAny (lGo ia ct sh) 26)))) (cc := cX4_takeOut) (maxL := 3) (ret := (some .boolean)) (by decide) rfl (Nat.le_of_ble_eq_true rfl) ?_
  intro p e s m below meth c A hx hb hr hml hts hown hlocks hin0 H hP hD hE hS hA ls hl
  have hK := hE.1
  have hown : s.vm.findClass RX4 = some m.cls := hown
  have hl : lv_has ls 3 [(0, .ref h)] := hl
  refine lv_iconst (v := 0) hx hb dX4_takeOut_0 (by decide) ?_
  refine lv_istore_n (lv' := [(1, .int 0), (0, .ref h)]) hx hb dX4_takeOut_1 rfl hl (by decide) rfl (fun ls hl => ?_)
  refine lv_iconst (v := 4) hx hb dX4_takeOut_2 (by decide) ?_
  refine lv_istore_n (lv' := [(2, .int 4), (1, .int 0), (0, .ref h)]) hx hb dX4_takeOut_3 rfl hl (by decide) rfl (fun ls hl => ?_)
  have loop_1 : ∀ (n : Nat) (j : Nat) (x : Int32), 4 ≤ j → j ≤ 26 → 26 < j + n → x = lAny (lGo ia ct sh) j → ∀ (H : Heap) (locs : List Loc), va_P D vwCl [(h, .inr (4, [.ref a1, .ref g])), (a1, .inl (z 1, 26, .inl (lMsk (lGo ia ct sh) j ia 0))), (g, .inr (2, [.ref c1, .ref c2, .ref c3, .ref c4, .int wt, .int wh])), (c1, .inr (1, [.ref v1])), (v1, .inl (z 0, 26, .inl (lMsk (lGo ia ct sh) j ct 0))), (c2, .inr (1, [.ref v2])), (v2, .inl (z 0, 26, .inl (lMsk (lGo ia ct sh) j ti 400))), (c3, .inr (1, [.ref v3])), (v3, .inl (z 0, 26, .inl (lMsk (lGo ia ct sh) j sh 0))), (c4, .inr (1, [.ref v4])), (v4, .inl (z 0, 676, .inl pr))] H → va_D A [(h, .inr (4, [.ref a1, .ref g])), (a1, .inl (z 1, 26, .inl (lMsk (lGo ia ct sh) j ia 0))), (g, .inr (2, [.ref c1, .ref c2, .ref c3, .ref c4, .int wt, .int wh])), (c1, .inr (1, [.ref v1])), (v1, .inl (z 0, 26, .inl (lMsk (lGo ia ct sh) j ct 0))), (c2, .inr (1, [.ref v2])), (v2, .inl (z 0, 26, .inl (lMsk (lGo ia ct sh) j ti 400))), (c3, .inr (1, [.ref v3])), (v3, .inl (z 0, 26, .inl (lMsk (lGo ia ct sh) j sh 0))), (c4, .inr (1, [.ref v4])), (v4, .inl (z 0, 676, .inl pr))] → va_S A s.heap H locs → ∀ ls : Array Slot, lv_has ls 3 [(2, .int (nI j)), (1, .int x), (0, .ref h)] → W p l e ({ frames := 2, cells := 0, slots := 0, locals := 43 } : Room) s m ([.ref h] : List Value).toArray below meth c H locs 0 0 (MQ below (QW D [(h, .inr (4, [.ref a1, .ref g])), (a1, .inl (z 1, 26, .inl (lMsk (lGo ia ct sh) 26 ia 0))), (g, .inr (2, [.ref c1, .ref c2, .ref c3, .ref c4, .int wt, .int wh])), (c1, .inr (1, [.ref v1])), (v1, .inl (z 0, 26, .inl (lMsk (lGo ia ct sh) 26 ct 0))), (c2, .inr (1, [.ref v2])), (v2, .inl (z 0, 26, .inl (lMsk (lGo ia ct sh) 26 ti 400))), (c3, .inr (1, [.ref v3])), (v3, .inl (z 0, 26, .inl (lMsk (lGo ia ct sh) 26 sh 0))), (c4, .inr (1, [.ref v4])), (v4, .inl (z 0, 676, .inl pr))] A (some (.int (lAny (lGo ia ct sh) 26)))) ([.ref h] : List Value).toArray s 0 0 A) (F0 m 4 ls []) := by
    intro n
    induction n with
    | zero => intro j x h4 hj hf hxj; exact absurd hf (by omega)
    | succ n ih =>
      intro j x h4 hj hf hxj H locs hP hD hS ls hl
      refine lv_iload_n hx hb dX4_takeOut_4 rfl (lv_at hl 0 rfl) ?_
      refine lv_aload_n hx hb dX4_takeOut_5 rfl (lv_at hl 2 rfl) ?_
      refine va_get (D := D) (ci := 4) (v := .ref a1) (C := RX4) (T := TX4) (N := 2) hx hb hts in_X4_takeOut_X4 hown hK hP 0 rfl rfl 0 (by decide) (hts (.fieldLink RX4 9 "TypingCoach$LettersIn" "in" "[Z") (List.mem_of_getElem? (i := 1) rfl)) (fun _ h9 => h9) rfl dX4_takeOut_6 ?_
      refine va_alen (v := 26) hx hb hK hP 1 1 rfl rfl rfl dX4_takeOut_9 ?_
      refine lv_icmp_ge (tgt := 55) hx hb dX4_takeOut_10 (by decide) (fun c_2 => ?_) (fun c_2 => ?_)
      · have hj2 : j = 26 := lpx c_2 hj (Nat.le_of_ble_eq_true rfl) rfl
        refine lv_iload_n hx hb dX4_takeOut_55 rfl (lv_at hl 1 rfl) ?_
        exact wr_z hx hb hr hlocks (by rw [hxj, hj2]; exact lAny_n _ _) hP hD hS dX4_takeOut_56 (by rw [hj2]) (by rw [hxj, hj2]) (Nat.le_refl _) (Nat.le_refl _)
      · have hjl : j < 26 := lpn c_2 hj (Nat.le_of_ble_eq_true rfl) rfl
        refine lv_aload_n hx hb dX4_takeOut_13 rfl (lv_at hl 2 rfl) ?_
        refine lv_iload_n hx hb dX4_takeOut_14 rfl (lv_at hl 0 rfl) ?_
        refine rdV (As := [.int (nI j)]) (rest := []) ⟨hx, hb, hml, hown, hts⟩ (c_X4_contains l D z q h a1 g (lMsk (lGo ia ct sh) j ia 0) (nI j)) (cwV 1 hts gX4_takeOut_X4_contains rfl rfl rfl hd_X4_contains ⟨Nat.le_of_ble_eq_true rfl, Nat.le_of_ble_eq_true rfl⟩) hE hS hA hP [0, 1] rfl rfl rfl rfl rfl hl.1 rfl (Nat.le_of_ble_eq_true rfl) dX4_takeOut_15 ⟨(Nat.le_of_ble_eq_true rfl), (Nat.le_of_ble_eq_true rfl)⟩ ?_
        refine lv_if_eq (tgt := 49) hx hb dX4_takeOut_18 (by decide) (fun c_3 => ?_) (fun c_3 => ?_)
        · refine lv_iinc (v := nI (j + 1)) (lv' := [(2, .int (nI (j + 1))), (1, .int x), (0, .ref h)]) hx hb dX4_takeOut_49 hl (k := 0) rfl (nI_1 j) (by decide) rfl (fun ls hl => ?_)
          refine lv_goto (tgt := 4) hx hb dX4_takeOut_52 (by decide) ?_
          have ho : lGo ia ct sh j = false := lGo_f1 (by rw [← lIn_msk _ _ 0 hjl]; exact c_3)
          simp only [lMsk_f ho] at hP hD
          exact ih (j + 1) x (by omega) (by omega) (by omega) (by rw [lAny_f ho]; exact hxj) _ _ hP hD hS ls (lv_sub hl [0, 1, 2] rfl)
        · refine lv_aload_n hx hb dX4_takeOut_21 rfl (lv_at hl 2 rfl) ?_
          refine va_get (D := D) (ci := 4) (v := .ref g) (C := RX4) (T := TX4) (N := 2) hx hb hts in_X4_takeOut_X4 hown hK hP 0 rfl rfl 1 (by decide) (hts (.fieldLink RX4 15 "TypingCoach$LettersIn" "figures" "LTypingCoach$Figures;") (List.mem_of_getElem? (i := 2) rfl)) (fun _ h9 => h9) rfl dX4_takeOut_22 ?_
          refine lv_iload_n hx hb dX4_takeOut_25 rfl (lv_at hl 0 rfl) ?_
          refine rdV (As := [.int (nI j)]) (rest := []) ⟨hx, hb, hml, hown, hts⟩ (c_X2_mustGoOut l D z q g c1 v1 c2 v2 c3 v3 c4 v4 (lMsk (lGo ia ct sh) j ct 0) (lMsk (lGo ia ct sh) j ti 400) (lMsk (lGo ia ct sh) j sh 0) pr wt wh (nI j)) (cwV 1 hts gX4_takeOut_X2_mustGoOut rfl rfl rfl hd_X2_mustGoOut ⟨Nat.le_of_ble_eq_true rfl, Nat.le_of_ble_eq_true rfl⟩) hE hS hA hP [2, 3, 4, 5, 6, 7, 8, 9, 10] rfl rfl rfl rfl rfl hl.1 rfl (Nat.le_of_ble_eq_true rfl) dX4_takeOut_26 ⟨(Nat.le_of_ble_eq_true rfl), (Nat.le_of_ble_eq_true rfl)⟩ ?_
          refine lv_if_eq (tgt := 49) hx hb dX4_takeOut_29 (by decide) (fun c_5 => ?_) (fun c_5 => ?_)
          · refine lv_iinc (v := nI (j + 1)) (lv' := [(2, .int (nI (j + 1))), (1, .int x), (0, .ref h)]) hx hb dX4_takeOut_49 hl (k := 0) rfl (nI_1 j) (by decide) rfl (fun ls hl => ?_)
            refine lv_goto (tgt := 4) hx hb dX4_takeOut_52 (by decide) ?_
            have ho : lGo ia ct sh j = false := lGo_f2 (by rw [← fOut_msk _ _ _ 0 0 hjl]; exact c_5)
            simp only [lMsk_f ho] at hP hD
            exact ih (j + 1) x (by omega) (by omega) (by omega) (by rw [lAny_f ho]; exact hxj) _ _ hP hD hS ls (lv_sub hl [0, 1, 2] rfl)
          · refine lv_aload_n hx hb dX4_takeOut_32 rfl (lv_at hl 2 rfl) ?_
            refine va_get (D := D) (ci := 4) (v := .ref a1) (C := RX4) (T := TX4) (N := 2) hx hb hts in_X4_takeOut_X4 hown hK hP 0 rfl rfl 0 (by decide) (hts (.fieldLink RX4 9 "TypingCoach$LettersIn" "in" "[Z") (List.mem_of_getElem? (i := 1) rfl)) (fun _ h9 => h9) rfl dX4_takeOut_33 ?_
            refine lv_iload_n hx hb dX4_takeOut_36 rfl (lv_at hl 0 rfl) ?_
            refine lv_iconst (v := 0) hx hb dX4_takeOut_37 (by decide) ?_
            refine va_zast hx hb hK hP hD hS 1 1 rfl rfl (vp_in_nI hjl (Nat.le_of_ble_eq_true rfl)) dX4_takeOut_38 (fun H locs hP hD hS => ?_)
            have hP : va_P D vwCl [(h, .inr (4, [.ref a1, .ref g])), (a1, .inl (z 1, 26, .inl (upd (lMsk (lGo ia ct sh) j ia 0) (nI j).toNatClampNeg (vp_nar .boolean 0)))), (g, .inr (2, [.ref c1, .ref c2, .ref c3, .ref c4, .int wt, .int wh])), (c1, .inr (1, [.ref v1])), (v1, .inl (z 0, 26, .inl (lMsk (lGo ia ct sh) j ct 0))), (c2, .inr (1, [.ref v2])), (v2, .inl (z 0, 26, .inl (lMsk (lGo ia ct sh) j ti 400))), (c3, .inr (1, [.ref v3])), (v3, .inl (z 0, 26, .inl (lMsk (lGo ia ct sh) j sh 0))), (c4, .inr (1, [.ref v4])), (v4, .inl (z 0, 676, .inl pr))] H := hP
            have hD : va_D A [(h, .inr (4, [.ref a1, .ref g])), (a1, .inl (z 1, 26, .inl (upd (lMsk (lGo ia ct sh) j ia 0) (nI j).toNatClampNeg (vp_nar .boolean 0)))), (g, .inr (2, [.ref c1, .ref c2, .ref c3, .ref c4, .int wt, .int wh])), (c1, .inr (1, [.ref v1])), (v1, .inl (z 0, 26, .inl (lMsk (lGo ia ct sh) j ct 0))), (c2, .inr (1, [.ref v2])), (v2, .inl (z 0, 26, .inl (lMsk (lGo ia ct sh) j ti 400))), (c3, .inr (1, [.ref v3])), (v3, .inl (z 0, 26, .inl (lMsk (lGo ia ct sh) j sh 0))), (c4, .inr (1, [.ref v4])), (v4, .inl (z 0, 676, .inl pr))] := hD
            refine lv_aload_n hx hb dX4_takeOut_39 rfl (lv_at hl 2 rfl) ?_
            refine va_get (D := D) (ci := 4) (v := .ref g) (C := RX4) (T := TX4) (N := 2) hx hb hts in_X4_takeOut_X4 hown hK hP 0 rfl rfl 1 (by decide) (hts (.fieldLink RX4 15 "TypingCoach$LettersIn" "figures" "LTypingCoach$Figures;") (List.mem_of_getElem? (i := 2) rfl)) (fun _ h9 => h9) rfl dX4_takeOut_40 ?_
            refine lv_iload_n hx hb dX4_takeOut_43 rfl (lv_at hl 0 rfl) ?_
            refine wrVv (As := [.int (nI j)]) (rest := []) ⟨hx, hb, hml, hown, hts⟩ (c_X2_forget l D z q g c1 v1 c2 v2 c3 v3 c4 v4 (lMsk (lGo ia ct sh) j ct 0) (lMsk (lGo ia ct sh) j ti 400) (lMsk (lGo ia ct sh) j sh 0) pr wt wh (nI j) H.size) (cwV 1 hts gX4_takeOut_X2_forget rfl rfl rfl hd_X2_forget ⟨Nat.le_of_ble_eq_true rfl, Nat.le_of_ble_eq_true rfl⟩) hE hS hA hP hD [2, 3, 4, 5, 6, 7, 8, 9, 10] rfl rfl rfl rfl rfl rfl rfl hl.1 rfl (Nat.le_of_ble_eq_true rfl) dX4_takeOut_44 ⟨(Nat.le_of_ble_eq_true rfl), (Nat.le_of_ble_eq_true rfl)⟩ (fun H locs hP hD hS => ?_)
            have hP : va_P D vwCl [(h, .inr (4, [.ref a1, .ref g])), (a1, .inl (z 1, 26, .inl (upd (lMsk (lGo ia ct sh) j ia 0) (nI j).toNatClampNeg (vp_nar .boolean 0)))), (g, .inr (2, [.ref c1, .ref c2, .ref c3, .ref c4, .int wt, .int wh])), (c1, .inr (1, [.ref v1])), (v1, .inl (z 0, 26, .inl (cSet 26 (lMsk (lGo ia ct sh) j ct 0) (nI j) 0))), (c2, .inr (1, [.ref v2])), (v2, .inl (z 0, 26, .inl (cSet 26 (lMsk (lGo ia ct sh) j ti 400) (nI j) 400))), (c3, .inr (1, [.ref v3])), (v3, .inl (z 0, 26, .inl (cSet 26 (lMsk (lGo ia ct sh) j sh 0) (nI j) 0))), (c4, .inr (1, [.ref v4])), (v4, .inl (z 0, 676, .inl pr))] H := hP
            have hD : va_D A [(h, .inr (4, [.ref a1, .ref g])), (a1, .inl (z 1, 26, .inl (upd (lMsk (lGo ia ct sh) j ia 0) (nI j).toNatClampNeg (vp_nar .boolean 0)))), (g, .inr (2, [.ref c1, .ref c2, .ref c3, .ref c4, .int wt, .int wh])), (c1, .inr (1, [.ref v1])), (v1, .inl (z 0, 26, .inl (cSet 26 (lMsk (lGo ia ct sh) j ct 0) (nI j) 0))), (c2, .inr (1, [.ref v2])), (v2, .inl (z 0, 26, .inl (cSet 26 (lMsk (lGo ia ct sh) j ti 400) (nI j) 400))), (c3, .inr (1, [.ref v3])), (v3, .inl (z 0, 26, .inl (cSet 26 (lMsk (lGo ia ct sh) j sh 0) (nI j) 0))), (c4, .inr (1, [.ref v4])), (v4, .inl (z 0, 676, .inl pr))] := hD
            refine lv_iconst (v := 1) hx hb dX4_takeOut_47 (by decide) ?_
            refine lv_istore_n (lv' := [(1, .int 1), (2, .int (nI j)), (0, .ref h)]) hx hb dX4_takeOut_48 rfl hl (by decide) rfl (fun ls hl => ?_)
            refine lv_iinc (v := nI (j + 1)) (lv' := [(2, .int (nI (j + 1))), (1, .int 1), (0, .ref h)]) hx hb dX4_takeOut_49 hl (k := 1) rfl (nI_1 j) (by decide) rfl (fun ls hl => ?_)
            refine lv_goto (tgt := 4) hx hb dX4_takeOut_52 (by decide) ?_
            have ho : lGo ia ct sh j = true := lGo_t (by rw [← lIn_msk _ _ 0 hjl]; exact c_3) (by rw [← fOut_msk _ _ _ 0 0 hjl]; exact c_5)
            simp only [cSet_nI _ _ hjl (Nat.le_of_ble_eq_true rfl : 26 < 2 ^ 31), nI_clamp (i26 hjl), nz0, lMsk_t ho h4] at hP hD
            exact ih (j + 1) 1 (by omega) (by omega) (by omega) (lAny_t ho h4 |>.symm) _ _ hP hD hS ls (lv_sub hl [0, 1, 2] rfl)
  exact loop_1 23 4 0 (by omega) (by omega) (by omega) (lAny_4 _).symm _ _ (by simp only [lMsk_4]; exact hP) (by simp only [lMsk_4]; exact hD) hS ls (lv_sub hl [0, 1, 2] rfl)
set_option maxRecDepth 20000 in
theorem in_X4_areAllGood_X4 : ∀ w ∈ wsX40, w ∈ wsX4_areAllGood := mem_r _ [24, 25] (by decide +kernel)
theorem hd_X4_areAllGood : yX4_areAllGood.cls = RX4 ∧ yX4_areAllGood.cls ≠ "java/lang/invoke/MethodHandle" ∧ yX4_areAllGood.cls ≠ "java/lang/invoke/VarHandle" ∧ (parseMethodDescriptor yX4_areAllGood.desc).map (fun d => d.parameters.length) = some 0 := by decide +kernel
set_option maxHeartbeats 4000000 in
set_option maxRecDepth 100000 in
theorem c_X4_areAllGood (l : Launch) (D : va_G) (z : Nat → ClassId) (q : Nat → Nat) (h : Nat) (a1 : Nat) (g : Nat) (ia : Nat → Int32) (c1 : Nat) (v1 : Nat) (c2 : Nat) (v2 : Nat) (c3 : Nat) (v3 : Nat) (c4 : Nat) (v4 : Nat) (ct : Nat → Int32) (ti : Nat → Int32) (sh : Nat → Int32) (pr : Nat → Int32) (wt : Int32) (wh : Int32)  : RD l yX4_areAllGood wsX4_areAllGood ({ frames := 2, cells := 0, slots := 0, locals := 42 } : Room) D z q [.ref h] [(h, .inr (4, [.ref a1, .ref g])), (a1, .inl (z 1, 26, .inl ia)), (g, .inr (2, [.ref c1, .ref c2, .ref c3, .ref c4, .int wt, .int wh])), (c1, .inr (1, [.ref v1])), (v1, .inl (z 0, 26, .inl ct)), (c2, .inr (1, [.ref v2])), (v2, .inl (z 0, 26, .inl ti)), (c3, .inr (1, [.ref v3])), (v3, .inl (z 0, 26, .inl sh)), (c4, .inr (1, [.ref v4])), (v4, .inl (z 0, 676, .inl pr))] (some (.int (lAgI ia ct ti sh wt wh))) := by
  refine RD_mk (cc := cX4_areAllGood) (maxL := 2) (ret := (some .boolean)) (by decide) rfl (Nat.le_of_ble_eq_true rfl) ?_
  intro p e s m below meth c hx hb hr hml hts hown hlocks hP hE hS hA ls hl
  have hK := hE.1
  have hown : s.vm.findClass RX4 = some m.cls := hown
  have hl : lv_has ls 2 [(0, .ref h)] := hl
  refine lv_iconst (v := 0) hx hb dX4_areAllGood_0 (by decide) ?_
  refine lv_istore_n (lv' := [(1, .int 0), (0, .ref h)]) hx hb dX4_areAllGood_1 rfl hl (by decide) rfl (fun ls hl => ?_)
  have loop_1 : ∀ (n : Nat) (j : Nat), j ≤ 26 → 26 < j + n → (∀ k, k < j → lIn ia (nI k) = 0 ∨ ¬ fGood ct ti sh wt wh (nI k) = 0) → ∀ ls : Array Slot, lv_has ls 2 [(1, .int (nI j)), (0, .ref h)] → W p l e ({ frames := 2, cells := 0, slots := 0, locals := 42 } : Room) s m ([.ref h] : List Value).toArray below meth c s.heap [] 0 0 (MQ below (QR (some (.int (lAgI ia ct ti sh wt wh)))) ([.ref h] : List Value).toArray s 0 0 (fun _ => False)) (F0 m 2 ls []) := by
    intro n
    induction n with
    | zero => intro j hj hf hall; exact absurd hf (by omega)
    | succ n ih =>
      intro j hj hf hall ls hl
      refine lv_iload_n hx hb dX4_areAllGood_2 rfl (lv_at hl 0 rfl) ?_
      refine lv_bipush (v := 26) hx hb dX4_areAllGood_3 (by decide) ?_
      refine lv_icmp_ge (tgt := 35) hx hb dX4_areAllGood_5 (by decide) (fun c_2 => ?_) (fun c_2 => ?_)
      · have hj2 : j = 26 := lpx c_2 hj (Nat.le_of_ble_eq_true rfl) rfl
        refine lv_iconst (v := 1) hx hb dX4_areAllGood_35 (by decide) ?_
        exact rd_z hx hb hr hlocks dX4_areAllGood_36 (by decide) (by rw [lAgI, if_pos (fun k hk => hall k (by omega))])
      · have hjl : j < 26 := lpn c_2 hj (Nat.le_of_ble_eq_true rfl) rfl
        refine lv_aload_n hx hb dX4_areAllGood_8 rfl (lv_at hl 1 rfl) ?_
        refine lv_iload_n hx hb dX4_areAllGood_9 rfl (lv_at hl 0 rfl) ?_
        refine rdV (As := [.int (nI j)]) (rest := []) ⟨hx, hb, hml, hown, hts⟩ (c_X4_contains l D z q h a1 g ia (nI j)) (cwV 1 hts gX4_areAllGood_X4_contains rfl rfl rfl hd_X4_contains ⟨Nat.le_of_ble_eq_true rfl, Nat.le_of_ble_eq_true rfl⟩) hE hS hA hP [0, 1] rfl rfl rfl rfl rfl hl.1 rfl (Nat.le_of_ble_eq_true rfl) dX4_areAllGood_10 ⟨(Nat.le_of_ble_eq_true rfl), (Nat.le_of_ble_eq_true rfl)⟩ ?_
        refine lv_if_eq (tgt := 29) hx hb dX4_areAllGood_13 (by decide) (fun c_3 => ?_) (fun c_3 => ?_)
        · refine lv_iinc (v := nI (j + 1)) (lv' := [(1, .int (nI (j + 1))), (0, .ref h)]) hx hb dX4_areAllGood_29 hl (k := 0) rfl (nI_1 j) (by decide) rfl (fun ls hl => ?_)
          refine lv_goto (tgt := 2) hx hb dX4_areAllGood_32 (by decide) ?_
          exact ih (j + 1) (by omega) (by omega) (lt_s hall (Or.inl c_3)) ls (lv_sub hl [0, 1] rfl)
        · refine lv_aload_n hx hb dX4_areAllGood_16 rfl (lv_at hl 1 rfl) ?_
          refine va_get (D := D) (ci := 4) (v := .ref g) (C := RX4) (T := TX4) (N := 2) hx hb hts in_X4_areAllGood_X4 hown hK hP 0 rfl rfl 1 (by decide) (hts (.fieldLink RX4 15 "TypingCoach$LettersIn" "figures" "LTypingCoach$Figures;") (List.mem_of_getElem? (i := 1) rfl)) (fun _ h9 => h9) rfl dX4_areAllGood_17 ?_
          refine lv_iload_n hx hb dX4_areAllGood_20 rfl (lv_at hl 0 rfl) ?_
          refine rdV (As := [.int (nI j)]) (rest := []) ⟨hx, hb, hml, hown, hts⟩ (c_X2_fulfilsWish l D z q g c1 v1 c2 v2 c3 v3 c4 v4 ct ti sh pr wt wh (nI j)) (cwV 1 hts gX4_areAllGood_X2_fulfilsWish rfl rfl rfl hd_X2_fulfilsWish ⟨Nat.le_of_ble_eq_true rfl, Nat.le_of_ble_eq_true rfl⟩) hE hS hA hP [2, 3, 4, 5, 6, 7, 8, 9, 10] rfl rfl rfl rfl rfl hl.1 rfl (Nat.le_of_ble_eq_true rfl) dX4_areAllGood_21 ⟨(Nat.le_of_ble_eq_true rfl), (Nat.le_of_ble_eq_true rfl)⟩ ?_
          refine lv_if_ne (tgt := 29) hx hb dX4_areAllGood_24 (by decide) (fun c_5 => ?_) (fun c_5 => ?_)
          · refine lv_iinc (v := nI (j + 1)) (lv' := [(1, .int (nI (j + 1))), (0, .ref h)]) hx hb dX4_areAllGood_29 hl (k := 0) rfl (nI_1 j) (by decide) rfl (fun ls hl => ?_)
            refine lv_goto (tgt := 2) hx hb dX4_areAllGood_32 (by decide) ?_
            exact ih (j + 1) (by omega) (by omega) (lt_s hall (Or.inr c_5)) ls (lv_sub hl [0, 1] rfl)
          · refine lv_iconst (v := 0) hx hb dX4_areAllGood_27 (by decide) ?_
            exact rd_z hx hb hr hlocks dX4_areAllGood_28 (by decide) (by rw [lAgI, if_neg (fun h9 => (h9 j hjl).elim c_3 (fun h2 => h2 c_5))])
  exact loop_1 27 0 (by omega) (by omega) (fun k hk => absurd hk (Nat.not_lt_zero k)) ls (lv_sub hl [0, 1] rfl)
set_option maxRecDepth 20000 in
theorem in_X4_letIn_X4 : ∀ w ∈ wsX40, w ∈ wsX4_letIn := mem_r _ [7, 8] (by decide +kernel)
theorem hd_X4_letIn : yX4_letIn.cls = RX4 ∧ yX4_letIn.cls ≠ "java/lang/invoke/MethodHandle" ∧ yX4_letIn.cls ≠ "java/lang/invoke/VarHandle" ∧ (parseMethodDescriptor yX4_letIn.desc).map (fun d => d.parameters.length) = some 0 := by decide +kernel
set_option maxHeartbeats 4000000 in
set_option maxRecDepth 100000 in
theorem c_X4_letIn (l : Launch) (D : va_G) (z : Nat → ClassId) (q : Nat → Nat) (h : Nat) (a1 : Nat) (g : Nat) (ia : Nat → Int32) (sz : Nat)  : WR l yX4_letIn wsX4_letIn ({ frames := 1, cells := 0, slots := 0, locals := 21 } : Room) D z q [.ref h] [(h, .inr (4, [.ref a1, .ref g])), (a1, .inl (z 1, 26, .inl ia))] sz [(h, .inr (4, [.ref a1, .ref g])), (a1, .inl (z 1, 26, .inl (lLetI ia)))] (some (.int (lLetV ia))) := by
  refine WR_mk (Qc := fun A => QW D [(h, .inr (4, [.ref a1, .ref g])), (a1, .inl (z 1, 26, .inl (lLetI ia)))] A (some (.int (lLetV ia)))) (cc := cX4_letIn) (maxL := 2) (ret := (some .int)) (by decide) rfl (Nat.le_of_ble_eq_true rfl) ?_
  intro p e s m below meth c A hx hb hr hml hts hown hlocks hin0 H hP hD hE hS hA ls hl
  have hK := hE.1
  have hown : s.vm.findClass RX4 = some m.cls := hown
  have hl : lv_has ls 2 [(0, .ref h)] := hl
  refine lv_iconst (v := 0) hx hb dX4_letIn_0 (by decide) ?_
  refine lv_istore_n (lv' := [(1, .int 0), (0, .ref h)]) hx hb dX4_letIn_1 rfl hl (by decide) rfl (fun ls hl => ?_)
  have loop_1 : ∀ (n : Nat) (j : Nat), j ≤ 26 → 26 < j + n → lNew ia = lFst (fun k => decide (lIn ia (nI k) = 0)) (26 - j) j → ∀ (H : Heap) (locs : List Loc), va_P D vwCl [(h, .inr (4, [.ref a1, .ref g])), (a1, .inl (z 1, 26, .inl ia))] H → va_D A [(h, .inr (4, [.ref a1, .ref g])), (a1, .inl (z 1, 26, .inl ia))] → va_S A s.heap H locs → ∀ ls : Array Slot, lv_has ls 2 [(1, .int (nI j)), (0, .ref h)] → W p l e ({ frames := 1, cells := 0, slots := 0, locals := 21 } : Room) s m ([.ref h] : List Value).toArray below meth c H locs 0 0 (MQ below (QW D [(h, .inr (4, [.ref a1, .ref g])), (a1, .inl (z 1, 26, .inl (lLetI ia)))] A (some (.int (lLetV ia)))) ([.ref h] : List Value).toArray s 0 0 A) (F0 m 2 ls []) := by
    intro n
    induction n with
    | zero => intro j hj hf hff; exact absurd hf (by omega)
    | succ n ih =>
      intro j hj hf hff H locs hP hD hS ls hl
      refine lv_iload_n hx hb dX4_letIn_2 rfl (lv_at hl 0 rfl) ?_
      refine lv_aload_n hx hb dX4_letIn_3 rfl (lv_at hl 1 rfl) ?_
      refine va_get (D := D) (ci := 4) (v := .ref a1) (C := RX4) (T := TX4) (N := 2) hx hb hts in_X4_letIn_X4 hown hK hP 0 rfl rfl 0 (by decide) (hts (.fieldLink RX4 9 "TypingCoach$LettersIn" "in" "[Z") (List.mem_of_getElem? (i := 1) rfl)) (fun _ h9 => h9) rfl dX4_letIn_4 ?_
      refine va_alen (v := 26) hx hb hK hP 1 1 rfl rfl rfl dX4_letIn_7 ?_
      refine lv_icmp_ge (tgt := 34) hx hb dX4_letIn_8 (by decide) (fun c_2 => ?_) (fun c_2 => ?_)
      · have hj2 : j = 26 := lpx c_2 hj (Nat.le_of_ble_eq_true rfl) rfl
        have hnew : lNew ia = 26 := by rw [hff, hj2]; rfl
        refine lv_iconst (v := (-1)) hx hb dX4_letIn_34 (by decide) ?_
        exact wr_i hx hb hr hlocks hP hD hS dX4_letIn_35 (by rw [lLetI, hnew]; rfl) (by rw [lLetV, hnew]; rfl) (Nat.le_refl _) (Nat.le_refl _)
      · have hjl : j < 26 := lpn c_2 hj (Nat.le_of_ble_eq_true rfl) rfl
        refine lv_aload_n hx hb dX4_letIn_11 rfl (lv_at hl 1 rfl) ?_
        refine lv_iload_n hx hb dX4_letIn_12 rfl (lv_at hl 0 rfl) ?_
        refine rdV (As := [.int (nI j)]) (rest := []) ⟨hx, hb, hml, hown, hts⟩ (c_X4_contains l D z q h a1 g ia (nI j)) (cwV 1 hts gX4_letIn_X4_contains rfl rfl rfl hd_X4_contains ⟨Nat.le_of_ble_eq_true rfl, Nat.le_of_ble_eq_true rfl⟩) hE hS hA hP [0, 1] rfl rfl rfl rfl rfl hl.1 rfl (Nat.le_of_ble_eq_true rfl) dX4_letIn_13 ⟨(Nat.le_of_ble_eq_true rfl), (Nat.le_of_ble_eq_true rfl)⟩ ?_
        refine lv_if_ne (tgt := 28) hx hb dX4_letIn_16 (by decide) (fun c_3 => ?_) (fun c_3 => ?_)
        · refine lv_iinc (v := nI (j + 1)) (lv' := [(1, .int (nI (j + 1))), (0, .ref h)]) hx hb dX4_letIn_28 hl (k := 0) rfl (nI_1 j) (by decide) rfl (fun ls hl => ?_)
          refine lv_goto (tgt := 2) hx hb dX4_letIn_31 (by decide) ?_
          exact ih (j + 1) (by omega) (by omega) (hff.trans (lFst_f (o := (fun k => decide (lIn ia (nI k) = 0))) (decide_eq_false c_3) hjl)) _ _ hP hD hS ls (lv_sub hl [0, 1] rfl)
        · have hnew : lNew ia = j := hff.trans (lFst_t (o := (fun k => decide (lIn ia (nI k) = 0))) (decide_eq_true c_3) hjl)
          refine lv_aload_n hx hb dX4_letIn_19 rfl (lv_at hl 1 rfl) ?_
          refine va_get (D := D) (ci := 4) (v := .ref a1) (C := RX4) (T := TX4) (N := 2) hx hb hts in_X4_letIn_X4 hown hK hP 0 rfl rfl 0 (by decide) (hts (.fieldLink RX4 9 "TypingCoach$LettersIn" "in" "[Z") (List.mem_of_getElem? (i := 1) rfl)) (fun _ h9 => h9) rfl dX4_letIn_20 ?_
          refine lv_iload_n hx hb dX4_letIn_23 rfl (lv_at hl 0 rfl) ?_
          refine lv_iconst (v := 1) hx hb dX4_letIn_24 (by decide) ?_
          refine va_zast hx hb hK hP hD hS 1 1 rfl rfl (vp_in_nI hjl (Nat.le_of_ble_eq_true rfl)) dX4_letIn_25 (fun H locs hP hD hS => ?_)
          have hP : va_P D vwCl [(h, .inr (4, [.ref a1, .ref g])), (a1, .inl (z 1, 26, .inl (upd ia (nI j).toNatClampNeg (vp_nar .boolean 1))))] H := hP
          have hD : va_D A [(h, .inr (4, [.ref a1, .ref g])), (a1, .inl (z 1, 26, .inl (upd ia (nI j).toNatClampNeg (vp_nar .boolean 1))))] := hD
          refine lv_iload_n hx hb dX4_letIn_26 rfl (lv_at hl 0 rfl) ?_
          exact wr_i hx hb hr hlocks hP hD hS dX4_letIn_27 (by rw [lLetI, hnew, if_pos hjl, nI_clamp (i26 hjl), nz1]) (by rw [lLetV, hnew, if_pos hjl]) (Nat.le_refl _) (Nat.le_refl _)
  exact loop_1 27 0 (by omega) (by omega) rfl _ _ hP hD hS ls (lv_sub hl [0, 1] rfl)
theorem hd_X4_review : yX4_review.cls = RX4 ∧ yX4_review.cls ≠ "java/lang/invoke/MethodHandle" ∧ yX4_review.cls ≠ "java/lang/invoke/VarHandle" ∧ (parseMethodDescriptor yX4_review.desc).map (fun d => d.parameters.length) = some 0 := by decide +kernel
set_option maxHeartbeats 4000000 in
set_option maxRecDepth 100000 in
theorem c_X4_review (l : Launch) (D : va_G) (z : Nat → ClassId) (q : Nat → Nat) (h : Nat) (a1 : Nat) (g : Nat) (ia : Nat → Int32) (c1 : Nat) (v1 : Nat) (c2 : Nat) (v2 : Nat) (c3 : Nat) (v3 : Nat) (c4 : Nat) (v4 : Nat) (ct : Nat → Int32) (ti : Nat → Int32) (sh : Nat → Int32) (pr : Nat → Int32) (wt : Int32) (wh : Int32) (sz : Nat)  : WR l yX4_review wsX4_review ({ frames := 3, cells := 0, slots := 0, locals := 65 } : Room) D z q [.ref h] [(h, .inr (4, [.ref a1, .ref g])), (a1, .inl (z 1, 26, .inl ia)), (g, .inr (2, [.ref c1, .ref c2, .ref c3, .ref c4, .int wt, .int wh])), (c1, .inr (1, [.ref v1])), (v1, .inl (z 0, 26, .inl ct)), (c2, .inr (1, [.ref v2])), (v2, .inl (z 0, 26, .inl ti)), (c3, .inr (1, [.ref v3])), (v3, .inl (z 0, 26, .inl sh)), (c4, .inr (1, [.ref v4])), (v4, .inl (z 0, 676, .inl pr))] sz [(h, .inr (4, [.ref a1, .ref g])), (a1, .inl (z 1, 26, .inl (lRevI ia ct ti sh wt wh))), (g, .inr (2, [.ref c1, .ref c2, .ref c3, .ref c4, .int wt, .int wh])), (c1, .inr (1, [.ref v1])), (v1, .inl (z 0, 26, .inl (lM1 ia ct sh ct 0))), (c2, .inr (1, [.ref v2])), (v2, .inl (z 0, 26, .inl (lM1 ia ct sh ti 400))), (c3, .inr (1, [.ref v3])), (v3, .inl (z 0, 26, .inl (lM1 ia ct sh sh 0))), (c4, .inr (1, [.ref v4])), (v4, .inl (z 0, 676, .inl pr))] (some (.int (lRevV ia ct ti sh wt wh))) := by
  refine WR_mk (Qc := fun A => QW D [(h, .inr (4, [.ref a1, .ref g])), (a1, .inl (z 1, 26, .inl (lRevI ia ct ti sh wt wh))), (g, .inr (2, [.ref c1, .ref c2, .ref c3, .ref c4, .int wt, .int wh])), (c1, .inr (1, [.ref v1])), (v1, .inl (z 0, 26, .inl (lM1 ia ct sh ct 0))), (c2, .inr (1, [.ref v2])), (v2, .inl (z 0, 26, .inl (lM1 ia ct sh ti 400))), (c3, .inr (1, [.ref v3])), (v3, .inl (z 0, 26, .inl (lM1 ia ct sh sh 0))), (c4, .inr (1, [.ref v4])), (v4, .inl (z 0, 676, .inl pr))] A (some (.int (lRevV ia ct ti sh wt wh)))) (cc := cX4_review) (maxL := 1) (ret := (some .int)) (by decide) rfl (Nat.le_of_ble_eq_true rfl) ?_
  intro p e s m below meth c A hx hb hr hml hts hown hlocks hin0 H hP hD hE hS hA ls hl
  have hK := hE.1
  have hown : s.vm.findClass RX4 = some m.cls := hown
  have hl : lv_has ls 1 [(0, .ref h)] := hl
  refine lv_aload_n hx hb dX4_review_0 rfl (lv_at hl 0 rfl) ?_
  refine wrVi (As := []) (rest := []) ⟨hx, hb, hml, hown, hts⟩ (c_X4_takeOut l D z q h a1 g ia c1 v1 c2 v2 c3 v3 c4 v4 ct ti sh pr wt wh H.size) (cwV 0 hts gX4_review_X4_takeOut rfl rfl rfl hd_X4_takeOut ⟨Nat.le_of_ble_eq_true rfl, Nat.le_of_ble_eq_true rfl⟩) hE hS hA hP hD [0, 1, 2, 3, 4, 5, 6, 7, 8, 9, 10] rfl rfl rfl rfl rfl rfl rfl hl.1 rfl (Nat.le_of_ble_eq_true rfl) dX4_review_1 ⟨(Nat.le_of_ble_eq_true rfl), (Nat.le_of_ble_eq_true rfl)⟩ (fun H locs hP hD hS => ?_)
  have hP : va_P D vwCl [(h, .inr (4, [.ref a1, .ref g])), (a1, .inl (z 1, 26, .inl (lMsk (lGo ia ct sh) 26 ia 0))), (g, .inr (2, [.ref c1, .ref c2, .ref c3, .ref c4, .int wt, .int wh])), (c1, .inr (1, [.ref v1])), (v1, .inl (z 0, 26, .inl (lMsk (lGo ia ct sh) 26 ct 0))), (c2, .inr (1, [.ref v2])), (v2, .inl (z 0, 26, .inl (lMsk (lGo ia ct sh) 26 ti 400))), (c3, .inr (1, [.ref v3])), (v3, .inl (z 0, 26, .inl (lMsk (lGo ia ct sh) 26 sh 0))), (c4, .inr (1, [.ref v4])), (v4, .inl (z 0, 676, .inl pr))] H := hP
  have hD : va_D A [(h, .inr (4, [.ref a1, .ref g])), (a1, .inl (z 1, 26, .inl (lMsk (lGo ia ct sh) 26 ia 0))), (g, .inr (2, [.ref c1, .ref c2, .ref c3, .ref c4, .int wt, .int wh])), (c1, .inr (1, [.ref v1])), (v1, .inl (z 0, 26, .inl (lMsk (lGo ia ct sh) 26 ct 0))), (c2, .inr (1, [.ref v2])), (v2, .inl (z 0, 26, .inl (lMsk (lGo ia ct sh) 26 ti 400))), (c3, .inr (1, [.ref v3])), (v3, .inl (z 0, 26, .inl (lMsk (lGo ia ct sh) 26 sh 0))), (c4, .inr (1, [.ref v4])), (v4, .inl (z 0, 676, .inl pr))] := hD
  refine lv_if_ne (tgt := 14) hx hb dX4_review_4 (by decide) (fun c_1 => ?_) (fun c_1 => ?_)
  · refine lv_iconst (v := (-1)) hx hb dX4_review_14 (by decide) ?_
    refine lv_goto (tgt := 22) hx hb dX4_review_15 (by decide) ?_
    exact wr_i hx hb hr hlocks hP hD hS dX4_review_22 (by simp only [lRevI, lM1, if_neg c_1, ↓reduceIte]) (by simp only [lRevV, lM1, if_neg c_1, ↓reduceIte]) (Nat.le_refl _) (Nat.le_refl _)
  · refine lv_aload_n hx hb dX4_review_7 rfl (lv_at hl 0 rfl) ?_
    refine rdV (As := []) (rest := []) ⟨hx, hb, hml, hown, hts⟩ (c_X4_areAllGood l D z q h a1 g (lMsk (lGo ia ct sh) 26 ia 0) c1 v1 c2 v2 c3 v3 c4 v4 (lMsk (lGo ia ct sh) 26 ct 0) (lMsk (lGo ia ct sh) 26 ti 400) (lMsk (lGo ia ct sh) 26 sh 0) pr wt wh) (cwV 0 hts gX4_review_X4_areAllGood rfl rfl rfl hd_X4_areAllGood ⟨Nat.le_of_ble_eq_true rfl, Nat.le_of_ble_eq_true rfl⟩) hE hS hA hP [0, 1, 2, 3, 4, 5, 6, 7, 8, 9, 10] rfl rfl rfl rfl rfl hl.1 rfl (Nat.le_of_ble_eq_true rfl) dX4_review_8 ⟨(Nat.le_of_ble_eq_true rfl), (Nat.le_of_ble_eq_true rfl)⟩ ?_
    refine lv_if_ne (tgt := 18) hx hb dX4_review_11 (by decide) (fun c_2 => ?_) (fun c_2 => ?_)
    · refine lv_aload_n hx hb dX4_review_18 rfl (lv_at hl 0 rfl) ?_
      refine wrVi (As := []) (rest := []) ⟨hx, hb, hml, hown, hts⟩ (c_X4_letIn l D z q h a1 g (lMsk (lGo ia ct sh) 26 ia 0) H.size) (cwV 0 hts gX4_review_X4_letIn rfl rfl rfl hd_X4_letIn ⟨Nat.le_of_ble_eq_true rfl, Nat.le_of_ble_eq_true rfl⟩) hE hS hA hP hD [0, 1] rfl rfl rfl rfl rfl rfl rfl hl.1 rfl (Nat.le_of_ble_eq_true rfl) dX4_review_19 ⟨(Nat.le_of_ble_eq_true rfl), (Nat.le_of_ble_eq_true rfl)⟩ (fun H locs hP hD hS => ?_)
      have hP : va_P D vwCl [(h, .inr (4, [.ref a1, .ref g])), (a1, .inl (z 1, 26, .inl (lLetI (lMsk (lGo ia ct sh) 26 ia 0)))), (g, .inr (2, [.ref c1, .ref c2, .ref c3, .ref c4, .int wt, .int wh])), (c1, .inr (1, [.ref v1])), (v1, .inl (z 0, 26, .inl (lMsk (lGo ia ct sh) 26 ct 0))), (c2, .inr (1, [.ref v2])), (v2, .inl (z 0, 26, .inl (lMsk (lGo ia ct sh) 26 ti 400))), (c3, .inr (1, [.ref v3])), (v3, .inl (z 0, 26, .inl (lMsk (lGo ia ct sh) 26 sh 0))), (c4, .inr (1, [.ref v4])), (v4, .inl (z 0, 676, .inl pr))] H := hP
      have hD : va_D A [(h, .inr (4, [.ref a1, .ref g])), (a1, .inl (z 1, 26, .inl (lLetI (lMsk (lGo ia ct sh) 26 ia 0)))), (g, .inr (2, [.ref c1, .ref c2, .ref c3, .ref c4, .int wt, .int wh])), (c1, .inr (1, [.ref v1])), (v1, .inl (z 0, 26, .inl (lMsk (lGo ia ct sh) 26 ct 0))), (c2, .inr (1, [.ref v2])), (v2, .inl (z 0, 26, .inl (lMsk (lGo ia ct sh) 26 ti 400))), (c3, .inr (1, [.ref v3])), (v3, .inl (z 0, 26, .inl (lMsk (lGo ia ct sh) 26 sh 0))), (c4, .inr (1, [.ref v4])), (v4, .inl (z 0, 676, .inl pr))] := hD
      exact wr_i hx hb hr hlocks hP hD hS dX4_review_22 (by simp only [lRevI, lM1, if_pos c_1, if_neg c_2, ↓reduceIte]) (by simp only [lRevV, lM1, if_pos c_1, if_neg c_2, ↓reduceIte]) (Nat.le_refl _) (Nat.le_refl _)
    · refine lv_iconst (v := (-1)) hx hb dX4_review_14 (by decide) ?_
      refine lv_goto (tgt := 22) hx hb dX4_review_15 (by decide) ?_
      exact wr_i hx hb hr hlocks hP hD hS dX4_review_22 (by simp only [lRevI, lM1, if_pos c_1, if_pos c_2, ↓reduceIte]) (by simp only [lRevV, lM1, if_pos c_1, if_pos c_2, ↓reduceIte]) (Nat.le_refl _) (Nat.le_refl _)
