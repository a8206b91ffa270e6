/-! ===== TypingCoach ===== -/
theorem bTouch_n (pl : Nat → Int32) (i j : Int32) : narrow .boolean (.int (bTouch pl i j)) = .int (bTouch pl i j) := by
  unfold bTouch; split <;> first | rfl | (split <;> rfl)
theorem fGood_n (ct ti sh : Nat → Int32) (wt wh i : Int32) : narrow .boolean (.int (fGood ct ti sh wt wh i)) = .int (fGood ct ti sh wt wh i) := by
  unfold fGood; split <;> first | rfl | (split <;> first | rfl | (split <;> rfl))
theorem lIn_n (ia : Nat → Int32) (i : Int32) : narrow .boolean (.int (lIn ia i)) = .int (lIn ia i) := by
  unfold lIn; split <;> first | rfl | (split <;> first | rfl | (split <;> rfl))
theorem hd_X6_isWithin : yX6_isWithin.cls ≠ "java/lang/invoke/MethodHandle" ∧ yX6_isWithin.cls ≠ "java/lang/invoke/VarHandle" ∧ (parseMethodDescriptor yX6_isWithin.desc).map (fun d => d.parameters.length) = some 3 := by decide +kernel
set_option maxHeartbeats 4000000 in
set_option maxRecDepth 100000 in
theorem c_X6_isWithin (l : Launch) (D : va_G) (z : Nat → ClassId) (q : Nat → Nat) (v : Int32) (a : Int32) (b : Int32)  : RD l yX6_isWithin wsX6_isWithin ({ frames := 0, cells := 0, slots := 0, locals := 0 } : Room) D z q [.int v, .int a, .int b] [] (some (.int (bW v a b))) := by
  refine RD_mk (cc := cX6_isWithin) (maxL := 3) (ret := (some .boolean)) (by decide) rfl (Nat.le_of_ble_eq_true rfl) ?_
  intro p e s m below meth c hx hb hr hml hts hown hlocks hP hE hS hA ls hl
  have hK := hE.1
  have hown : s.vm.findClass RX6 = some m.cls := hown
  have hl : lv_has ls 3 [(0, .int v), (1, .int a), (2, .int b)] := hl
  refine lv_iload_n hx hb dX6_isWithin_0 rfl (lv_at hl 0 rfl) ?_
  refine lv_iload_n hx hb dX6_isWithin_1 rfl (lv_at hl 1 rfl) ?_
  refine lv_icmp_lt (tgt := 14) hx hb dX6_isWithin_2 (by decide) (fun c_1 => ?_) (fun c_1 => ?_)
  · refine lv_iconst (v := 0) hx hb dX6_isWithin_14 (by decide) ?_
    exact rd_z hx hb hr hlocks dX6_isWithin_15 (by decide) (by simp only [bW, if_pos c_1, ↓reduceIte])
  · refine lv_iload_n hx hb dX6_isWithin_5 rfl (lv_at hl 0 rfl) ?_
    refine lv_iload_n hx hb dX6_isWithin_6 rfl (lv_at hl 2 rfl) ?_
    refine lv_icmp_gt (tgt := 14) hx hb dX6_isWithin_7 (by decide) (fun c_2 => ?_) (fun c_2 => ?_)
    · refine lv_iconst (v := 0) hx hb dX6_isWithin_14 (by decide) ?_
      exact rd_z hx hb hr hlocks dX6_isWithin_15 (by decide) (by simp only [bW, if_neg c_1, if_pos c_2, ↓reduceIte])
    · refine lv_iconst (v := 1) hx hb dX6_isWithin_10 (by decide) ?_
      refine lv_goto (tgt := 15) hx hb dX6_isWithin_11 (by decide) ?_
      exact rd_z hx hb hr hlocks dX6_isWithin_15 (by decide) (by simp only [bW, if_neg c_1, if_neg c_2, ↓reduceIte])
theorem hd_X6_needLetter : yX6_needLetter.cls ≠ "java/lang/invoke/MethodHandle" ∧ yX6_needLetter.cls ≠ "java/lang/invoke/VarHandle" ∧ (parseMethodDescriptor yX6_needLetter.desc).map (fun d => d.parameters.length) = some 1 := by decide +kernel
set_option maxHeartbeats 4000000 in
set_option maxRecDepth 100000 in
theorem c_X6_needLetter (l : Launch) (D : va_G) (z : Nat → ClassId) (q : Nat → Nat) (i : Int32) (hlt : l.stackTraces = false) : TS l yX6_needLetter wsX6_needLetter ({ frames := 6, cells := 1, slots := 6, locals := 120 } : Room) D z q [.int i] (¬ bW i 0 25 = 0) (fun E => (bW i 0 25 = 0 ∧ E = xI)) := by
  refine TS_mk (cc := cX6_needLetter) (maxL := 1) (ret := none) (by decide) rfl (Nat.le_of_ble_eq_true rfl) ?_
  intro p e s m below meth c hx hb hr hml hts hown hlocks hout hP hE hS hA ls hl
  have hK := hE.1
  have hown : s.vm.findClass RX6 = some m.cls := hown
  have hl : lv_has ls 1 [(0, .int i)] := hl
  refine lv_iload_n hx hb dX6_needLetter_0 rfl (lv_at hl 0 rfl) ?_
  refine lv_iconst (v := 0) hx hb dX6_needLetter_1 (by decide) ?_
  refine lv_bipush (v := 25) hx hb dX6_needLetter_2 (by decide) ?_
  refine rdS (As := [.int i, .int 0, .int 25]) (rest := []) ⟨hx, hb, hml, hown, hts⟩ (c_X6_isWithin l D z q i 0 25) (va_cwS 3 hts gX6_needLetter_X6_isWithin rfl rfl rfl hd_X6_isWithin ⟨Nat.le_of_ble_eq_true rfl, Nat.le_of_ble_eq_true rfl⟩) hE hS hA hP [] rfl rfl hl.1 rfl (Nat.le_of_ble_eq_true rfl) dX6_needLetter_4 ⟨(Nat.le_of_ble_eq_true rfl), (Nat.le_of_ble_eq_true rfl)⟩ ?_
  refine lv_if_ne (tgt := 20) hx hb dX6_needLetter_7 (by decide) (fun c_1 => ?_) (fun c_1 => ?_)
  · exact ts_v hx hb hr hlocks dX6_needLetter_20 c_1
  · exact thr (is := 221) (text := "no such letter") (cls := xI) hx hb hlt hown fitI xIm (hts (.classLink RX6 70 "java/lang/IndexOutOfBoundsException") (List.mem_of_getElem? (i := 1) rfl)) (hts (.initialized "java/lang/IndexOutOfBoundsException") (List.mem_of_getElem? (i := 2) rfl)) (List.mem_of_getElem? (i := 9) rfl) ng74 (fun w h => hts w (List.mem_cons_of_mem _ (List.mem_append_right _ h))) gd74 hE hS rfl hml hl.1 dX6_needLetter_10 dX6_needLetter_13 dX6_needLetter_14 dX6_needLetter_16 dX6_needLetter_19 hout hlocks (Nat.le_of_ble_eq_true rfl) (Nat.le_of_ble_eq_true rfl) ⟨(Nat.le_of_ble_eq_true rfl), (Nat.le_of_ble_eq_true rfl)⟩ (⟨c_1, rfl⟩) (Nat.le_of_ble_eq_true rfl) (Nat.le_of_ble_eq_true rfl)
theorem hd_X6_needMillis : yX6_needMillis.cls ≠ "java/lang/invoke/MethodHandle" ∧ yX6_needMillis.cls ≠ "java/lang/invoke/VarHandle" ∧ (parseMethodDescriptor yX6_needMillis.desc).map (fun d => d.parameters.length) = some 1 := by decide +kernel
set_option maxHeartbeats 4000000 in
set_option maxRecDepth 100000 in
theorem c_X6_needMillis (l : Launch) (D : va_G) (z : Nat → ClassId) (q : Nat → Nat) (mo : Int32) (hlt : l.stackTraces = false) : TS l yX6_needMillis wsX6_needMillis ({ frames := 6, cells := 1, slots := 6, locals := 120 } : Room) D z q [.int mo] (¬ bW mo 1 5000 = 0) (fun E => (bW mo 1 5000 = 0 ∧ E = xA)) := by
  refine TS_mk (cc := cX6_needMillis) (maxL := 1) (ret := none) (by decide) rfl (Nat.le_of_ble_eq_true rfl) ?_
  intro p e s m below meth c hx hb hr hml hts hown hlocks hout hP hE hS hA ls hl
  have hK := hE.1
  have hown : s.vm.findClass RX6 = some m.cls := hown
  have hl : lv_has ls 1 [(0, .int mo)] := hl
  refine lv_iload_n hx hb dX6_needMillis_0 rfl (lv_at hl 0 rfl) ?_
  refine lv_iconst (v := 1) hx hb dX6_needMillis_1 (by decide) ?_
  refine lv_sipush (v := 5000) hx hb dX6_needMillis_2 (by decide) ?_
  refine rdS (As := [.int mo, .int 1, .int 5000]) (rest := []) ⟨hx, hb, hml, hown, hts⟩ (c_X6_isWithin l D z q mo 1 5000) (va_cwS 3 hts gX6_needMillis_X6_isWithin rfl rfl rfl hd_X6_isWithin ⟨Nat.le_of_ble_eq_true rfl, Nat.le_of_ble_eq_true rfl⟩) hE hS hA hP [] rfl rfl hl.1 rfl (Nat.le_of_ble_eq_true rfl) dX6_needMillis_5 ⟨(Nat.le_of_ble_eq_true rfl), (Nat.le_of_ble_eq_true rfl)⟩ ?_
  refine lv_if_ne (tgt := 21) hx hb dX6_needMillis_8 (by decide) (fun c_1 => ?_) (fun c_1 => ?_)
  · exact ts_v hx hb hr hlocks dX6_needMillis_21 c_1
  · exact thr (is := 223) (text := "millis out of range") (cls := xA) hx hb hlt hown fitA xAm (hts (.classLink RX6 107 "java/lang/IllegalArgumentException") (List.mem_of_getElem? (i := 1) rfl)) (hts (.initialized "java/lang/IllegalArgumentException") (List.mem_of_getElem? (i := 2) rfl)) (List.mem_of_getElem? (i := 10) rfl) ng111 (fun w h => hts w (List.mem_cons_of_mem _ (List.mem_append_right _ h))) gd111 hE hS rfl hml hl.1 dX6_needMillis_11 dX6_needMillis_14 dX6_needMillis_15 dX6_needMillis_17 dX6_needMillis_20 hout hlocks (Nat.le_of_ble_eq_true rfl) (Nat.le_of_ble_eq_true rfl) ⟨(Nat.le_of_ble_eq_true rfl), (Nat.le_of_ble_eq_true rfl)⟩ (⟨c_1, rfl⟩) (Nat.le_of_ble_eq_true rfl) (Nat.le_of_ble_eq_true rfl)
set_option maxRecDepth 20000 in
theorem in_X6_put_X6 : ∀ w ∈ wsX60, w ∈ wsX6_put := mem_r _ [28, 29, 30, 31, 32, 33, 34, 35] (by decide +kernel)
theorem hd_X6_put : yX6_put.cls = RX6 ∧ yX6_put.cls ≠ "java/lang/invoke/MethodHandle" ∧ yX6_put.cls ≠ "java/lang/invoke/VarHandle" ∧ (parseMethodDescriptor yX6_put.desc).map (fun d => d.parameters.length) = some 3 := by decide +kernel
set_option maxHeartbeats 4000000 in
set_option maxRecDepth 100000 in
theorem c_X6_put (l : Launch) (D : va_G) (z : Nat → ClassId) (q : Nat → Nat) (xo : Nat) (xb : Nat) (xg : Nat) (xn : Nat) (xt : Nat) (xp : Nat) (xk : Nat) (xf : Nat) (dy : Int32) (b1 : Nat) (w1 : Nat) (b2 : Nat) (w2 : Nat) (pl : Nat → Int32) (lo : Nat → Int32) (i : Int32) (co : Int32) (ro : Int32) (sz : Nat) (hlt : l.stackTraces = false) : TX l yX6_put wsX6_put ({ frames := 7, cells := 3, slots := 18, locals := 140 } : Room) D z q [.ref xo, .int i, .int co, .int ro] [(xo, .inr (6, [.ref xb, .ref xg, .ref xn, .ref xt, .ref xp, .ref xk, .ref xf, .int dy])), (xb, .inr (0, [.ref b1, .ref b2])), (b1, .inr (1, [.ref w1])), (w1, .inl (z 0, 26, .inl pl)), (b2, .inr (1, [.ref w2])), (w2, .inl (z 0, 30, .inl lo))] sz [(xo, .inr (6, [.ref xb, .ref xg, .ref xn, .ref xt, .ref xp, .ref xk, .ref xf, .int dy])), (xb, .inr (0, [.ref b1, .ref b2])), (b1, .inr (1, [.ref w1])), (w1, .inl (z 0, 26, .inl (bMovP pl lo i (ro * 10 + co)))), (b2, .inr (1, [.ref w2])), (w2, .inl (z 0, 30, .inl (bMovL pl lo i (ro * 10 + co))))] (some (.int (cAt 30 lo (ro * 10 + co)))) (¬ bW i 0 25 = 0 ∧ ¬ bW co 0 9 = 0 ∧ ¬ bW ro 0 2 = 0) (fun E => (bW i 0 25 = 0 ∧ E = xI) ∨ (¬ bW i 0 25 = 0 ∧ bW co 0 9 = 0 ∧ E = xI) ∨ (¬ bW i 0 25 = 0 ∧ ¬ bW co 0 9 = 0 ∧ bW ro 0 2 = 0 ∧ E = xI)) := by
  refine TX_mk (Qc := fun A a st o t => (¬ bW i 0 25 = 0 ∧ ¬ bW co 0 9 = 0 ∧ ¬ bW ro 0 2 = 0) ∧ QW D [(xo, .inr (6, [.ref xb, .ref xg, .ref xn, .ref xt, .ref xp, .ref xk, .ref xf, .int dy])), (xb, .inr (0, [.ref b1, .ref b2])), (b1, .inr (1, [.ref w1])), (w1, .inl (z 0, 26, .inl (bMovP pl lo i (ro * 10 + co)))), (b2, .inr (1, [.ref w2])), (w2, .inl (z 0, 30, .inl (bMovL pl lo i (ro * 10 + co))))] A (some (.int (cAt 30 lo (ro * 10 + co)))) a st o t) (XC := XK (fun E => (bW i 0 25 = 0 ∧ E = xI) ∨ (¬ bW i 0 25 = 0 ∧ bW co 0 9 = 0 ∧ E = xI) ∨ (¬ bW i 0 25 = 0 ∧ ¬ bW co 0 9 = 0 ∧ bW ro 0 2 = 0 ∧ E = xI))) (mc := 3) (ms := 18) (cc := cX6_put) (maxL := 4) (ret := (some .int)) (by decide) rfl (Nat.le_of_ble_eq_true rfl) ?_
  intro p e s m below meth c A hx hb hr hml hts hown hlocks hout H hH0 hP hD hE hS hA ls hl
  have hK := hE.1
  have hown : s.vm.findClass RX6 = some m.cls := hown
  have hl : lv_has ls 4 [(0, .ref xo), (1, .int i), (2, .int co), (3, .int ro)] := hl
  refine lv_iload_n hx hb dX6_put_0 rfl (lv_at hl 1 rfl) ?_
  refine tsS (As := [.int i]) (rest := []) (mc := 3) (ms := 18) ⟨hx, hb, hml, hown, hts⟩ (c_X6_needLetter l D z q i hlt) (va_cwS 1 hts gX6_put_X6_needLetter rfl rfl rfl hd_X6_needLetter ⟨Nat.le_of_ble_eq_true rfl, Nat.le_of_ble_eq_true rfl⟩) hE hS hA hP hH0 hout hlocks rfl hl.1 rfl (Nat.le_of_ble_eq_true rfl) dX6_put_1 ⟨(Nat.le_of_ble_eq_true rfl), (Nat.le_of_ble_eq_true rfl)⟩ (fun E h => Or.inl ⟨h.1, h.2⟩) (Nat.le_of_ble_eq_true rfl) (Nat.le_of_ble_eq_true rfl) (fun c_1 => ?_)
  refine W.widen (k := 1) (n := 6) (Nat.le_refl _) (Nat.le_refl _) ?_
  refine lv_iload_n hx hb dX6_put_4 rfl (lv_at hl 2 rfl) ?_
  refine lv_iconst (v := 0) hx hb dX6_put_5 (by decide) ?_
  refine lv_bipush (v := 9) hx hb dX6_put_6 (by decide) ?_
  refine rdS (As := [.int co, .int 0, .int 9]) (rest := []) ⟨hx, hb, hml, hown, hts⟩ (c_X6_isWithin l D z q co 0 9) (va_cwS 3 hts gX6_put_X6_isWithin rfl rfl rfl hd_X6_isWithin ⟨Nat.le_of_ble_eq_true rfl, Nat.le_of_ble_eq_true rfl⟩) hE hS hA hP [] rfl rfl hl.1 rfl (Nat.le_of_ble_eq_true rfl) dX6_put_8 ⟨(Nat.le_of_ble_eq_true rfl), (Nat.le_of_ble_eq_true rfl)⟩ ?_
  refine lv_if_eq (tgt := 23) hx hb dX6_put_11 (by decide) (fun c_2 => ?_) (fun c_2 => ?_)
  · exact thr (is := 72) (text := "no such place") (cls := xI) hx hb hlt hown fitI xIm (hts (.classLink RX6 70 "java/lang/IndexOutOfBoundsException") (List.mem_of_getElem? (i := 1) rfl)) (hts (.initialized "java/lang/IndexOutOfBoundsException") (List.mem_of_getElem? (i := 2) rfl)) (List.mem_of_getElem? (i := 11) rfl) ng74 (fun w h => hts w (List.mem_cons_of_mem _ (List.mem_append_right _ h))) gd74 hE hS hH0 hml hl.1 dX6_put_23 dX6_put_26 dX6_put_27 dX6_put_29 dX6_put_32 hout hlocks (Nat.le_of_ble_eq_true rfl) (Nat.le_of_ble_eq_true rfl) ⟨(Nat.le_of_ble_eq_true rfl), (Nat.le_of_ble_eq_true rfl)⟩ (Or.inr (Or.inl ⟨c_1, c_2, rfl⟩)) (Nat.le_of_ble_eq_true rfl) (Nat.le_of_ble_eq_true rfl)
  · refine lv_iload_n hx hb dX6_put_14 rfl (lv_at hl 3 rfl) ?_
    refine lv_iconst (v := 0) hx hb dX6_put_15 (by decide) ?_
    refine lv_iconst (v := 2) hx hb dX6_put_16 (by decide) ?_
    refine rdS (As := [.int ro, .int 0, .int 2]) (rest := []) ⟨hx, hb, hml, hown, hts⟩ (c_X6_isWithin l D z q ro 0 2) (va_cwS 3 hts gX6_put_X6_isWithin rfl rfl rfl hd_X6_isWithin ⟨Nat.le_of_ble_eq_true rfl, Nat.le_of_ble_eq_true rfl⟩) hE hS hA hP [] rfl rfl hl.1 rfl (Nat.le_of_ble_eq_true rfl) dX6_put_17 ⟨(Nat.le_of_ble_eq_true rfl), (Nat.le_of_ble_eq_true rfl)⟩ ?_
    refine lv_if_ne (tgt := 33) hx hb dX6_put_20 (by decide) (fun c_3 => ?_) (fun c_3 => ?_)
    · refine lv_aload_n hx hb dX6_put_33 rfl (lv_at hl 0 rfl) ?_
      refine va_get (D := D) (ci := 6) (v := .ref xb) (C := RX6) (T := TX6) (N := 8) hx hb hts in_X6_put_X6 hown hK hP 0 rfl rfl 0 (by decide) (hts (.fieldLink RX6 10 "TypingCoach" "board" "LTypingCoach$Board;") (List.mem_of_getElem? (i := 3) rfl)) (fun _ h9 => h9) rfl dX6_put_34 ?_
      refine lv_iload_n hx hb dX6_put_37 rfl (lv_at hl 1 rfl) ?_
      refine lv_iload_n hx hb dX6_put_38 rfl (lv_at hl 3 rfl) ?_
      refine lv_bipush (v := 10) hx hb dX6_put_39 (by decide) ?_
      refine lv_imul hx hb dX6_put_41 ?_
      refine lv_iload_n hx hb dX6_put_42 rfl (lv_at hl 2 rfl) ?_
      refine lv_iadd hx hb dX6_put_43 ?_
      refine wrVi (As := [.int i, .int ((ro * 10) + co)]) (rest := []) ⟨hx, hb, hml, hown, hts⟩ (c_X0_move l D z q xb b1 w1 b2 w2 pl lo i ((ro * 10) + co) H.size) (cwV 2 hts gX6_put_X0_move rfl rfl rfl hd_X0_move ⟨Nat.le_of_ble_eq_true rfl, Nat.le_of_ble_eq_true rfl⟩) hE hS hA hP hD [1, 2, 3, 4, 5] rfl rfl rfl rfl rfl rfl rfl hl.1 rfl (Nat.le_of_ble_eq_true rfl) dX6_put_44 ⟨(Nat.le_of_ble_eq_true rfl), (Nat.le_of_ble_eq_true rfl)⟩ (fun H locs hP hD hS => ?_)
      have hP : va_P D vwCl [(xo, .inr (6, [.ref xb, .ref xg, .ref xn, .ref xt, .ref xp, .ref xk, .ref xf, .int dy])), (xb, .inr (0, [.ref b1, .ref b2])), (b1, .inr (1, [.ref w1])), (w1, .inl (z 0, 26, .inl (bMovP pl lo i ((ro * 10) + co)))), (b2, .inr (1, [.ref w2])), (w2, .inl (z 0, 30, .inl (bMovL pl lo i ((ro * 10) + co))))] H := hP
      have hD : va_D A [(xo, .inr (6, [.ref xb, .ref xg, .ref xn, .ref xt, .ref xp, .ref xk, .ref xf, .int dy])), (xb, .inr (0, [.ref b1, .ref b2])), (b1, .inr (1, [.ref w1])), (w1, .inl (z 0, 26, .inl (bMovP pl lo i ((ro * 10) + co)))), (b2, .inr (1, [.ref w2])), (w2, .inl (z 0, 30, .inl (bMovL pl lo i ((ro * 10) + co))))] := hD
      exact tx_i hx hb hr hlocks hP hD hS dX6_put_47 (⟨c_1, c_2, c_3⟩) (rfl) (rfl) (Nat.le_of_ble_eq_true rfl) (Nat.le_of_ble_eq_true rfl)
    · exact thr (is := 72) (text := "no such place") (cls := xI) hx hb hlt hown fitI xIm (hts (.classLink RX6 70 "java/lang/IndexOutOfBoundsException") (List.mem_of_getElem? (i := 1) rfl)) (hts (.initialized "java/lang/IndexOutOfBoundsException") (List.mem_of_getElem? (i := 2) rfl)) (List.mem_of_getElem? (i := 11) rfl) ng74 (fun w h => hts w (List.mem_cons_of_mem _ (List.mem_append_right _ h))) gd74 hE hS hH0 hml hl.1 dX6_put_23 dX6_put_26 dX6_put_27 dX6_put_29 dX6_put_32 hout hlocks (Nat.le_of_ble_eq_true rfl) (Nat.le_of_ble_eq_true rfl) ⟨(Nat.le_of_ble_eq_true rfl), (Nat.le_of_ble_eq_true rfl)⟩ (Or.inr (Or.inr (⟨c_1, c_2, c_3, rfl⟩))) (Nat.le_of_ble_eq_true rfl) (Nat.le_of_ble_eq_true rfl)
set_option maxRecDepth 20000 in
theorem in_X6_finger_X6 : ∀ w ∈ wsX60, w ∈ wsX6_finger := mem_r _ [27, 28, 29, 30, 31, 32, 33, 34] (by decide +kernel)
theorem hd_X6_finger : yX6_finger.cls = RX6 ∧ yX6_finger.cls ≠ "java/lang/invoke/MethodHandle" ∧ yX6_finger.cls ≠ "java/lang/invoke/VarHandle" ∧ (parseMethodDescriptor yX6_finger.desc).map (fun d => d.parameters.length) = some 1 := by decide +kernel
set_option maxHeartbeats 4000000 in
set_option maxRecDepth 100000 in
theorem c_X6_finger (l : Launch) (D : va_G) (z : Nat → ClassId) (q : Nat → Nat) (xo : Nat) (xb : Nat) (xg : Nat) (xn : Nat) (xt : Nat) (xp : Nat) (xk : Nat) (xf : Nat) (dy : Int32) (b1 : Nat) (w1 : Nat) (b2 : Nat) (w2 : Nat) (pl : Nat → Int32) (lo : Nat → Int32) (i : Int32) (sz : Nat) (hlt : l.stackTraces = false) : TX l yX6_finger wsX6_finger ({ frames := 7, cells := 3, slots := 18, locals := 140 } : Room) D z q [.ref xo, .int i] [(xo, .inr (6, [.ref xb, .ref xg, .ref xn, .ref xt, .ref xp, .ref xk, .ref xf, .int dy])), (xb, .inr (0, [.ref b1, .ref b2])), (b1, .inr (1, [.ref w1])), (w1, .inl (z 0, 26, .inl pl)), (b2, .inr (1, [.ref w2])), (w2, .inl (z 0, 30, .inl lo))] sz [(xo, .inr (6, [.ref xb, .ref xg, .ref xn, .ref xt, .ref xp, .ref xk, .ref xf, .int dy])), (xb, .inr (0, [.ref b1, .ref b2])), (b1, .inr (1, [.ref w1])), (w1, .inl (z 0, 26, .inl pl)), (b2, .inr (1, [.ref w2])), (w2, .inl (z 0, 30, .inl lo))] (some (.int (bFin pl i))) (¬ bW i 0 25 = 0) (fun E => (bW i 0 25 = 0 ∧ E = xI)) := by
  refine TX_mk (Qc := fun A a st o t => (¬ bW i 0 25 = 0) ∧ QW D [(xo, .inr (6, [.ref xb, .ref xg, .ref xn, .ref xt, .ref xp, .ref xk, .ref xf, .int dy])), (xb, .inr (0, [.ref b1, .ref b2])), (b1, .inr (1, [.ref w1])), (w1, .inl (z 0, 26, .inl pl)), (b2, .inr (1, [.ref w2])), (w2, .inl (z 0, 30, .inl lo))] A (some (.int (bFin pl i))) a st o t) (XC := XK (fun E => (bW i 0 25 = 0 ∧ E = xI))) (mc := 3) (ms := 18) (cc := cX6_finger) (maxL := 2) (ret := (some .int)) (by decide) rfl (Nat.le_of_ble_eq_true rfl) ?_
  intro p e s m below meth c A hx hb hr hml hts hown hlocks hout H hH0 hP hD hE hS hA ls hl
  have hK := hE.1
  have hown : s.vm.findClass RX6 = some m.cls := hown
  have hl : lv_has ls 2 [(0, .ref xo), (1, .int i)] := hl
  refine lv_iload_n hx hb dX6_finger_0 rfl (lv_at hl 1 rfl) ?_
  refine tsS (As := [.int i]) (rest := []) (mc := 3) (ms := 18) ⟨hx, hb, hml, hown, hts⟩ (c_X6_needLetter l D z q i hlt) (va_cwS 1 hts gX6_finger_X6_needLetter rfl rfl rfl hd_X6_needLetter ⟨Nat.le_of_ble_eq_true rfl, Nat.le_of_ble_eq_true rfl⟩) hE hS hA hP hH0 hout hlocks rfl hl.1 rfl (Nat.le_of_ble_eq_true rfl) dX6_finger_1 ⟨(Nat.le_of_ble_eq_true rfl), (Nat.le_of_ble_eq_true rfl)⟩ (fun E h => ⟨h.1, h.2⟩) (Nat.le_of_ble_eq_true rfl) (Nat.le_of_ble_eq_true rfl) (fun c_1 => ?_)
  refine W.widen (k := 1) (n := 6) (Nat.le_refl _) (Nat.le_refl _) ?_
  refine lv_aload_n hx hb dX6_finger_4 rfl (lv_at hl 0 rfl) ?_
  refine va_get (D := D) (ci := 6) (v := .ref xb) (C := RX6) (T := TX6) (N := 8) hx hb hts in_X6_finger_X6 hown hK hP 0 rfl rfl 0 (by decide) (hts (.fieldLink RX6 10 "TypingCoach" "board" "LTypingCoach$Board;") (List.mem_of_getElem? (i := 1) rfl)) (fun _ h9 => h9) rfl dX6_finger_5 ?_
  refine lv_iload_n hx hb dX6_finger_8 rfl (lv_at hl 1 rfl) ?_
  refine rdV (As := [.int i]) (rest := []) ⟨hx, hb, hml, hown, hts⟩ (c_X0_fingerOf l D z q xb b1 w1 b2 w2 pl lo i) (cwV 1 hts gX6_finger_X0_fingerOf rfl rfl rfl hd_X0_fingerOf ⟨Nat.le_of_ble_eq_true rfl, Nat.le_of_ble_eq_true rfl⟩) hE hS hA hP [1, 2, 3, 4, 5] rfl rfl rfl rfl rfl hl.1 rfl (Nat.le_of_ble_eq_true rfl) dX6_finger_9 ⟨(Nat.le_of_ble_eq_true rfl), (Nat.le_of_ble_eq_true rfl)⟩ ?_
  exact tx_i hx hb hr hlocks hP hD hS dX6_finger_12 (c_1) (rfl) (rfl) (Nat.le_of_ble_eq_true rfl) (Nat.le_of_ble_eq_true rfl)
set_option maxRecDepth 20000 in
theorem in_X6_areBeside_X6 : ∀ w ∈ wsX60, w ∈ wsX6_areBeside := mem_r _ [35, 36, 37, 38, 39, 40, 41, 42] (by decide +kernel)
theorem hd_X6_areBeside : yX6_areBeside.cls = RX6 ∧ yX6_areBeside.cls ≠ "java/lang/invoke/MethodHandle" ∧ yX6_areBeside.cls ≠ "java/lang/invoke/VarHandle" ∧ (parseMethodDescriptor yX6_areBeside.desc).map (fun d => d.parameters.length) = some 2 := by decide +kernel
set_option maxHeartbeats 4000000 in
set_option maxRecDepth 100000 in
theorem c_X6_areBeside (l : Launch) (D : va_G) (z : Nat → ClassId) (q : Nat → Nat) (xo : Nat) (xb : Nat) (xg : Nat) (xn : Nat) (xt : Nat) (xp : Nat) (xk : Nat) (xf : Nat) (dy : Int32) (b1 : Nat) (w1 : Nat) (b2 : Nat) (w2 : Nat) (pl : Nat → Int32) (lo : Nat → Int32) (i : Int32) (j : Int32) (sz : Nat) (hlt : l.stackTraces = false) : TX l yX6_areBeside wsX6_areBeside ({ frames := 7, cells := 3, slots := 18, locals := 140 } : Room) D z q [.ref xo, .int i, .int j] [(xo, .inr (6, [.ref xb, .ref xg, .ref xn, .ref xt, .ref xp, .ref xk, .ref xf, .int dy])), (xb, .inr (0, [.ref b1, .ref b2])), (b1, .inr (1, [.ref w1])), (w1, .inl (z 0, 26, .inl pl)), (b2, .inr (1, [.ref w2])), (w2, .inl (z 0, 30, .inl lo))] sz [(xo, .inr (6, [.ref xb, .ref xg, .ref xn, .ref xt, .ref xp, .ref xk, .ref xf, .int dy])), (xb, .inr (0, [.ref b1, .ref b2])), (b1, .inr (1, [.ref w1])), (w1, .inl (z 0, 26, .inl pl)), (b2, .inr (1, [.ref w2])), (w2, .inl (z 0, 30, .inl lo))] (some (.int (bTouch pl i j))) (¬ bW i 0 25 = 0 ∧ ¬ bW j 0 25 = 0) (fun E => (bW i 0 25 = 0 ∧ E = xI) ∨ (¬ bW i 0 25 = 0 ∧ bW j 0 25 = 0 ∧ E = xI)) := by
  refine TX_mk (Qc := fun A a st o t => (¬ bW i 0 25 = 0 ∧ ¬ bW j 0 25 = 0) ∧ QW D [(xo, .inr (6, [.ref xb, .ref xg, .ref xn, .ref xt, .ref xp, .ref xk, .ref xf, .int dy])), (xb, .inr (0, [.ref b1, .ref b2])), (b1, .inr (1, [.ref w1])), (w1, .inl (z 0, 26, .inl pl)), (b2, .inr (1, [.ref w2])), (w2, .inl (z 0, 30, .inl lo))] A (some (.int (bTouch pl i j))) a st o t) (XC := XK (fun E => (bW i 0 25 = 0 ∧ E = xI) ∨ (¬ bW i 0 25 = 0 ∧ bW j 0 25 = 0 ∧ E = xI))) (mc := 3) (ms := 18) (cc := cX6_areBeside) (maxL := 3) (ret := (some .boolean)) (by decide) rfl (Nat.le_of_ble_eq_true rfl) ?_
  intro p e s m below meth c A hx hb hr hml hts hown hlocks hout H hH0 hP hD hE hS hA ls hl
  have hK := hE.1
  have hown : s.vm.findClass RX6 = some m.cls := hown
  have hl : lv_has ls 3 [(0, .ref xo), (1, .int i), (2, .int j)] := hl
  refine lv_iload_n hx hb dX6_areBeside_0 rfl (lv_at hl 1 rfl) ?_
  refine tsS (As := [.int i]) (rest := []) (mc := 3) (ms := 18) ⟨hx, hb, hml, hown, hts⟩ (c_X6_needLetter l D z q i hlt) (va_cwS 1 hts gX6_areBeside_X6_needLetter rfl rfl rfl hd_X6_needLetter ⟨Nat.le_of_ble_eq_true rfl, Nat.le_of_ble_eq_true rfl⟩) hE hS hA hP hH0 hout hlocks rfl hl.1 rfl (Nat.le_of_ble_eq_true rfl) dX6_areBeside_1 ⟨(Nat.le_of_ble_eq_true rfl), (Nat.le_of_ble_eq_true rfl)⟩ (fun E h => Or.inl ⟨h.1, h.2⟩) (Nat.le_of_ble_eq_true rfl) (Nat.le_of_ble_eq_true rfl) (fun c_1 => ?_)
  refine W.widen (k := 1) (n := 6) (Nat.le_refl _) (Nat.le_refl _) ?_
  refine lv_iload_n hx hb dX6_areBeside_4 rfl (lv_at hl 2 rfl) ?_
  refine tsS (As := [.int j]) (rest := []) (mc := 3) (ms := 18) ⟨hx, hb, hml, hown, hts⟩ (c_X6_needLetter l D z q j hlt) (va_cwS 1 hts gX6_areBeside_X6_needLetter rfl rfl rfl hd_X6_needLetter ⟨Nat.le_of_ble_eq_true rfl, Nat.le_of_ble_eq_true rfl⟩) hE hS hA hP hH0 hout hlocks rfl hl.1 rfl (Nat.le_of_ble_eq_true rfl) dX6_areBeside_5 ⟨(Nat.le_of_ble_eq_true rfl), (Nat.le_of_ble_eq_true rfl)⟩ (fun E h => Or.inr (⟨c_1, h.1, h.2⟩)) (Nat.le_of_ble_eq_true rfl) (Nat.le_of_ble_eq_true rfl) (fun c_2 => ?_)
  refine W.widen (k := 2) (n := 12) (Nat.le_refl _) (Nat.le_refl _) ?_
  refine lv_aload_n hx hb dX6_areBeside_8 rfl (lv_at hl 0 rfl) ?_
  refine va_get (D := D) (ci := 6) (v := .ref xb) (C := RX6) (T := TX6) (N := 8) hx hb hts in_X6_areBeside_X6 hown hK hP 0 rfl rfl 0 (by decide) (hts (.fieldLink RX6 10 "TypingCoach" "board" "LTypingCoach$Board;") (List.mem_of_getElem? (i := 1) rfl)) (fun _ h9 => h9) rfl dX6_areBeside_9 ?_
  refine lv_iload_n hx hb dX6_areBeside_12 rfl (lv_at hl 1 rfl) ?_
  refine lv_iload_n hx hb dX6_areBeside_13 rfl (lv_at hl 2 rfl) ?_
  refine rdV (As := [.int i, .int j]) (rest := []) ⟨hx, hb, hml, hown, hts⟩ (c_X0_touch l D z q xb b1 w1 b2 w2 pl lo i j) (cwV 2 hts gX6_areBeside_X0_touch rfl rfl rfl hd_X0_touch ⟨Nat.le_of_ble_eq_true rfl, Nat.le_of_ble_eq_true rfl⟩) hE hS hA hP [1, 2, 3, 4, 5] rfl rfl rfl rfl rfl hl.1 rfl (Nat.le_of_ble_eq_true rfl) dX6_areBeside_14 ⟨(Nat.le_of_ble_eq_true rfl), (Nat.le_of_ble_eq_true rfl)⟩ ?_
  exact tx_z hx hb hr hlocks (bTouch_n _ _ _) hP hD hS dX6_areBeside_17 (⟨c_1, c_2⟩) (rfl) (rfl) (Nat.le_of_ble_eq_true rfl) (Nat.le_of_ble_eq_true rfl)
set_option maxRecDepth 20000 in
theorem in_X6_mirror_X6 : ∀ w ∈ wsX60, w ∈ wsX6_mirror := mem_r _ [32, 33, 34, 35, 36, 37, 38, 39] (by decide +kernel)
theorem hd_X6_mirror : yX6_mirror.cls = RX6 ∧ yX6_mirror.cls ≠ "java/lang/invoke/MethodHandle" ∧ yX6_mirror.cls ≠ "java/lang/invoke/VarHandle" ∧ (parseMethodDescriptor yX6_mirror.desc).map (fun d => d.parameters.length) = some 1 := by decide +kernel
set_option maxHeartbeats 4000000 in
set_option maxRecDepth 100000 in
theorem c_X6_mirror (l : Launch) (D : va_G) (z : Nat → ClassId) (q : Nat → Nat) (xo : Nat) (xb : Nat) (xg : Nat) (xn : Nat) (xt : Nat) (xp : Nat) (xk : Nat) (xf : Nat) (dy : Int32) (b1 : Nat) (w1 : Nat) (b2 : Nat) (w2 : Nat) (pl : Nat → Int32) (lo : Nat → Int32) (i : Int32) (sz : Nat) (hlt : l.stackTraces = false) : TX l yX6_mirror wsX6_mirror ({ frames := 7, cells := 3, slots := 18, locals := 140 } : Room) D z q [.ref xo, .int i] [(xo, .inr (6, [.ref xb, .ref xg, .ref xn, .ref xt, .ref xp, .ref xk, .ref xf, .int dy])), (xb, .inr (0, [.ref b1, .ref b2])), (b1, .inr (1, [.ref w1])), (w1, .inl (z 0, 26, .inl pl)), (b2, .inr (1, [.ref w2])), (w2, .inl (z 0, 30, .inl lo))] sz [(xo, .inr (6, [.ref xb, .ref xg, .ref xn, .ref xt, .ref xp, .ref xk, .ref xf, .int dy])), (xb, .inr (0, [.ref b1, .ref b2])), (b1, .inr (1, [.ref w1])), (w1, .inl (z 0, 26, .inl pl)), (b2, .inr (1, [.ref w2])), (w2, .inl (z 0, 30, .inl lo))] (some (.int (bMir pl lo i))) (¬ bW i 0 25 = 0) (fun E => (bW i 0 25 = 0 ∧ E = xI)) := by
  refine TX_mk (Qc := fun A a st o t => (¬ bW i 0 25 = 0) ∧ QW D [(xo, .inr (6, [.ref xb, .ref xg, .ref xn, .ref xt, .ref xp, .ref xk, .ref xf, .int dy])), (xb, .inr (0, [.ref b1, .ref b2])), (b1, .inr (1, [.ref w1])), (w1, .inl (z 0, 26, .inl pl)), (b2, .inr (1, [.ref w2])), (w2, .inl (z 0, 30, .inl lo))] A (some (.int (bMir pl lo i))) a st o t) (XC := XK (fun E => (bW i 0 25 = 0 ∧ E = xI))) (mc := 3) (ms := 18) (cc := cX6_mirror) (maxL := 2) (ret := (some .int)) (by decide) rfl (Nat.le_of_ble_eq_true rfl) ?_
  intro p e s m below meth c A hx hb hr hml hts hown hlocks hout H hH0 hP hD hE hS hA ls hl
  have hK := hE.1
  have hown : s.vm.findClass RX6 = some m.cls := hown
  have hl : lv_has ls 2 [(0, .ref xo), (1, .int i)] := hl
  refine lv_iload_n hx hb dX6_mirror_0 rfl (lv_at hl 1 rfl) ?_
  refine tsS (As := [.int i]) (rest := []) (mc := 3) (ms := 18) ⟨hx, hb, hml, hown, hts⟩ (c_X6_needLetter l D z q i hlt) (va_cwS 1 hts gX6_mirror_X6_needLetter rfl rfl rfl hd_X6_needLetter ⟨Nat.le_of_ble_eq_true rfl, Nat.le_of_ble_eq_true rfl⟩) hE hS hA hP hH0 hout hlocks rfl hl.1 rfl (Nat.le_of_ble_eq_true rfl) dX6_mirror_1 ⟨(Nat.le_of_ble_eq_true rfl), (Nat.le_of_ble_eq_true rfl)⟩ (fun E h => ⟨h.1, h.2⟩) (Nat.le_of_ble_eq_true rfl) (Nat.le_of_ble_eq_true rfl) (fun c_1 => ?_)
  refine W.widen (k := 1) (n := 6) (Nat.le_refl _) (Nat.le_refl _) ?_
  refine lv_aload_n hx hb dX6_mirror_4 rfl (lv_at hl 0 rfl) ?_
  refine va_get (D := D) (ci := 6) (v := .ref xb) (C := RX6) (T := TX6) (N := 8) hx hb hts in_X6_mirror_X6 hown hK hP 0 rfl rfl 0 (by decide) (hts (.fieldLink RX6 10 "TypingCoach" "board" "LTypingCoach$Board;") (List.mem_of_getElem? (i := 1) rfl)) (fun _ h9 => h9) rfl dX6_mirror_5 ?_
  refine lv_iload_n hx hb dX6_mirror_8 rfl (lv_at hl 1 rfl) ?_
  refine rdV (As := [.int i]) (rest := []) ⟨hx, hb, hml, hown, hts⟩ (c_X0_mirrorOf l D z q xb b1 w1 b2 w2 pl lo i) (cwV 1 hts gX6_mirror_X0_mirrorOf rfl rfl rfl hd_X0_mirrorOf ⟨Nat.le_of_ble_eq_true rfl, Nat.le_of_ble_eq_true rfl⟩) hE hS hA hP [1, 2, 3, 4, 5] rfl rfl rfl rfl rfl hl.1 rfl (Nat.le_of_ble_eq_true rfl) dX6_mirror_9 ⟨(Nat.le_of_ble_eq_true rfl), (Nat.le_of_ble_eq_true rfl)⟩ ?_
  exact tx_i hx hb hr hlocks hP hD hS dX6_mirror_12 (c_1) (rfl) (rfl) (Nat.le_of_ble_eq_true rfl) (Nat.le_of_ble_eq_true rfl)
set_option maxRecDepth 20000 in
theorem in_X6_want_X6 : ∀ w ∈ wsX60, w ∈ wsX6_want := mem_r _ [30, 31, 32, 33, 34, 35, 36, 37] (by decide +kernel)
set_option maxRecDepth 20000 in
theorem in_X6_want_X3 : ∀ w ∈ wsX30, w ∈ wsX6_want := mem_r _ [38, 39, 40, 41, 42, 43] (by decide +kernel)
theorem hd_X6_want : yX6_want.cls = RX6 ∧ yX6_want.cls ≠ "java/lang/invoke/MethodHandle" ∧ yX6_want.cls ≠ "java/lang/invoke/VarHandle" ∧ (parseMethodDescriptor yX6_want.desc).map (fun d => d.parameters.length) = some 1 := by decide +kernel
set_option maxHeartbeats 4000000 in
set_option maxRecDepth 100000 in
theorem c_X6_want (l : Launch) (D : va_G) (z : Nat → ClassId) (q : Nat → Nat) (xo : Nat) (xb : Nat) (xg : Nat) (xn : Nat) (xt : Nat) (xp : Nat) (xk : Nat) (xf : Nat) (dy : Int32) (t1 : Nat) (r1 : Nat) (t2 : Nat) (r2 : Nat) (lt : Nat → Int32) (ty : Nat → Int32) (zz : Int32) (po : Int32) (me : Int32) (ml : Int32) (i : Int32) (sz : Nat) (hlt : l.stackTraces = false) : TX l yX6_want wsX6_want ({ frames := 7, cells := 3, slots := 18, locals := 140 } : Room) D z q [.ref xo, .int i] [(xo, .inr (6, [.ref xb, .ref xg, .ref xn, .ref xt, .ref xp, .ref xk, .ref xf, .int dy])), (xt, .inr (3, [.ref t1, .ref t2, .int zz, .int po, .int me, .int ml])), (t1, .inr (1, [.ref r1])), (r1, .inl (z 0, 40, .inl lt)), (t2, .inr (1, [.ref r2])), (r2, .inl (z 0, 40, .inl ty))] sz [(xo, .inr (6, [.ref xb, .ref xg, .ref xn, .ref xt, .ref xp, .ref xk, .ref xf, .int dy])), (xt, .inr (3, [.ref t1, .ref t2, .int (zz + 1), .int po, .int me, .int ml])), (t1, .inr (1, [.ref r1])), (r1, .inl (z 0, 40, .inl (cSet 40 lt zz i))), (t2, .inr (1, [.ref r2])), (r2, .inl (z 0, 40, .inl ty))] (some (.int (zz + 1))) (¬ bW i 0 25 = 0 ∧ ¬ ¬ tFull zz = 0) (fun E => (bW i 0 25 = 0 ∧ E = xI) ∨ (¬ bW i 0 25 = 0 ∧ ¬ tFull zz = 0 ∧ E = xS)) := by
  refine TX_mk (Qc := fun A a st o t => (¬ bW i 0 25 = 0 ∧ ¬ ¬ tFull zz = 0) ∧ QW D [(xo, .inr (6, [.ref xb, .ref xg, .ref xn, .ref xt, .ref xp, .ref xk, .ref xf, .int dy])), (xt, .inr (3, [.ref t1, .ref t2, .int (zz + 1), .int po, .int me, .int ml])), (t1, .inr (1, [.ref r1])), (r1, .inl (z 0, 40, .inl (cSet 40 lt zz i))), (t2, .inr (1, [.ref r2])), (r2, .inl (z 0, 40, .inl ty))] A (some (.int (zz + 1))) a st o t) (XC := XK (fun E => (bW i 0 25 = 0 ∧ E = xI) ∨ (¬ bW i 0 25 = 0 ∧ ¬ tFull zz = 0 ∧ E = xS))) (mc := 3) (ms := 18) (cc := cX6_want) (maxL := 2) (ret := (some .int)) (by decide) rfl (Nat.le_of_ble_eq_true rfl) ?_
  intro p e s m below meth c A hx hb hr hml hts hown hlocks hout H hH0 hP hD hE hS hA ls hl
  have hK := hE.1
  have hown : s.vm.findClass RX6 = some m.cls := hown
  have hl : lv_has ls 2 [(0, .ref xo), (1, .int i)] := hl
  refine lv_iload_n hx hb dX6_want_0 rfl (lv_at hl 1 rfl) ?_
  refine tsS (As := [.int i]) (rest := []) (mc := 3) (ms := 18) ⟨hx, hb, hml, hown, hts⟩ (c_X6_needLetter l D z q i hlt) (va_cwS 1 hts gX6_want_X6_needLetter rfl rfl rfl hd_X6_needLetter ⟨Nat.le_of_ble_eq_true rfl, Nat.le_of_ble_eq_true rfl⟩) hE hS hA hP hH0 hout hlocks rfl hl.1 rfl (Nat.le_of_ble_eq_true rfl) dX6_want_1 ⟨(Nat.le_of_ble_eq_true rfl), (Nat.le_of_ble_eq_true rfl)⟩ (fun E h => Or.inl ⟨h.1, h.2⟩) (Nat.le_of_ble_eq_true rfl) (Nat.le_of_ble_eq_true rfl) (fun c_1 => ?_)
  refine W.widen (k := 1) (n := 6) (Nat.le_refl _) (Nat.le_refl _) ?_
  refine lv_aload_n hx hb dX6_want_4 rfl (lv_at hl 0 rfl) ?_
  refine va_get (D := D) (ci := 6) (v := .ref xt) (C := RX6) (T := TX6) (N := 8) hx hb hts in_X6_want_X6 hown hK hP 0 rfl rfl 3 (by decide) (hts (.fieldLink RX6 35 "TypingCoach" "lesson" "LTypingCoach$Lesson;") (List.mem_of_getElem? (i := 3) rfl)) (fun _ h9 => h9) rfl dX6_want_5 ?_
  refine rdV (As := []) (rest := []) ⟨hx, hb, hml, hown, hts⟩ (c_X3_isFull l D z q xt t1 r1 t2 r2 lt ty zz po me ml) (cwV 0 hts gX6_want_X3_isFull rfl rfl rfl hd_X3_isFull ⟨Nat.le_of_ble_eq_true rfl, Nat.le_of_ble_eq_true rfl⟩) hE hS hA hP [1, 2, 3, 4, 5] rfl rfl rfl rfl rfl hl.1 rfl (Nat.le_of_ble_eq_true rfl) dX6_want_8 ⟨(Nat.le_of_ble_eq_true rfl), (Nat.le_of_ble_eq_true rfl)⟩ ?_
  refine lv_if_eq (tgt := 24) hx hb dX6_want_11 (by decide) (fun c_2 => ?_) (fun c_2 => ?_)
  · refine lv_aload_n hx hb dX6_want_24 rfl (lv_at hl 0 rfl) ?_
    refine va_get (D := D) (ci := 6) (v := .ref xt) (C := RX6) (T := TX6) (N := 8) hx hb hts in_X6_want_X6 hown hK hP 0 rfl rfl 3 (by decide) (hts (.fieldLink RX6 35 "TypingCoach" "lesson" "LTypingCoach$Lesson;") (List.mem_of_getElem? (i := 3) rfl)) (fun _ h9 => h9) rfl dX6_want_25 ?_
    refine lv_iload_n hx hb dX6_want_28 rfl (lv_at hl 1 rfl) ?_
    refine wrVv (As := [.int i]) (rest := []) ⟨hx, hb, hml, hown, hts⟩ (c_X3_append l D z q xt t1 r1 t2 r2 lt ty zz po me ml i H.size) (cwV 1 hts gX6_want_X3_append rfl rfl rfl hd_X3_append ⟨Nat.le_of_ble_eq_true rfl, Nat.le_of_ble_eq_true rfl⟩) hE hS hA hP hD [1, 2, 3, 4, 5] rfl rfl rfl rfl rfl rfl rfl hl.1 rfl (Nat.le_of_ble_eq_true rfl) dX6_want_29 ⟨(Nat.le_of_ble_eq_true rfl), (Nat.le_of_ble_eq_true rfl)⟩ (fun H locs hP hD hS => ?_)
    have hP : va_P D vwCl [(xo, .inr (6, [.ref xb, .ref xg, .ref xn, .ref xt, .ref xp, .ref xk, .ref xf, .int dy])), (xt, .inr (3, [.ref t1, .ref t2, .int (zz + 1), .int po, .int me, .int ml])), (t1, .inr (1, [.ref r1])), (r1, .inl (z 0, 40, .inl (cSet 40 lt zz i))), (t2, .inr (1, [.ref r2])), (r2, .inl (z 0, 40, .inl ty))] H := hP
    have hD : va_D A [(xo, .inr (6, [.ref xb, .ref xg, .ref xn, .ref xt, .ref xp, .ref xk, .ref xf, .int dy])), (xt, .inr (3, [.ref t1, .ref t2, .int (zz + 1), .int po, .int me, .int ml])), (t1, .inr (1, [.ref r1])), (r1, .inl (z 0, 40, .inl (cSet 40 lt zz i))), (t2, .inr (1, [.ref r2])), (r2, .inl (z 0, 40, .inl ty))] := hD
    refine lv_aload_n hx hb dX6_want_32 rfl (lv_at hl 0 rfl) ?_
    refine va_get (D := D) (ci := 6) (v := .ref xt) (C := RX6) (T := TX6) (N := 8) hx hb hts in_X6_want_X6 hown hK hP 0 rfl rfl 3 (by decide) (hts (.fieldLink RX6 35 "TypingCoach" "lesson" "LTypingCoach$Lesson;") (List.mem_of_getElem? (i := 3) rfl)) (fun _ h9 => h9) rfl dX6_want_33 ?_
    refine va_getN (D := D) (ci := 3) (v := .int (zz + 1)) (C := RX3) (T := TX3) (N := 6) hx hb hts in_X6_want_X3 hown hK hP 1 rfl rfl 2 (by decide) (va_Nw.use rfl (hE.2.1.1 (104, "TypingCoach$Lesson", "size", "I") (List.mem_of_getElem? (i := 0) rfl))) (fun _ h9 => h9) rfl dX6_want_36 ?_
    exact tx_i hx hb hr hlocks hP hD hS dX6_want_39 (⟨c_1, (fun h9 => h9 c_2)⟩) (rfl) (rfl) (Nat.le_of_ble_eq_true rfl) (Nat.le_of_ble_eq_true rfl)
  · exact thr (is := 98) (text := "40 letters are wanted") (cls := xS) hx hb hlt hown fitS xSm (hts (.classLink RX6 96 "java/lang/IllegalStateException") (List.mem_of_getElem? (i := 1) rfl)) (hts (.initialized "java/lang/IllegalStateException") (List.mem_of_getElem? (i := 2) rfl)) (List.mem_of_getElem? (i := 12) rfl) ng100 (fun w h => hts w (List.mem_cons_of_mem _ (List.mem_append_left _ (List.mem_append_right _ h)))) gd100 hE hS hH0 hml hl.1 dX6_want_14 dX6_want_17 dX6_want_18 dX6_want_20 dX6_want_23 hout hlocks (Nat.le_of_ble_eq_true rfl) (Nat.le_of_ble_eq_true rfl) ⟨(Nat.le_of_ble_eq_true rfl), (Nat.le_of_ble_eq_true rfl)⟩ (Or.inr (⟨c_1, c_2, rfl⟩)) (Nat.le_of_ble_eq_true rfl) (Nat.le_of_ble_eq_true rfl)
set_option maxRecDepth 20000 in
theorem in_X6_wanted_X6 : ∀ w ∈ wsX60, w ∈ wsX6_wanted := mem_r _ [2, 3, 4, 5, 6, 7, 8, 9] (by decide +kernel)
set_option maxRecDepth 20000 in
theorem in_X6_wanted_X3 : ∀ w ∈ wsX30, w ∈ wsX6_wanted := mem_r _ [10, 11, 12, 13, 14, 15] (by decide +kernel)
theorem hd_X6_wanted : yX6_wanted.cls = RX6 ∧ yX6_wanted.cls ≠ "java/lang/invoke/MethodHandle" ∧ yX6_wanted.cls ≠ "java/lang/invoke/VarHandle" ∧ (parseMethodDescriptor yX6_wanted.desc).map (fun d => d.parameters.length) = some 0 := by decide +kernel
set_option maxHeartbeats 4000000 in
set_option maxRecDepth 100000 in
theorem c_X6_wanted (l : Launch) (D : va_G) (z : Nat → ClassId) (q : Nat → Nat) (xo : Nat) (xb : Nat) (xg : Nat) (xn : Nat) (xt : Nat) (xp : Nat) (xk : Nat) (xf : Nat) (dy : Int32) (t1 : Nat) (r1 : Nat) (t2 : Nat) (r2 : Nat) (lt : Nat → Int32) (ty : Nat → Int32) (zz : Int32) (po : Int32) (me : Int32) (ml : Int32)  : RD l yX6_wanted wsX6_wanted ({ frames := 0, cells := 0, slots := 0, locals := 0 } : Room) D z q [.ref xo] [(xo, .inr (6, [.ref xb, .ref xg, .ref xn, .ref xt, .ref xp, .ref xk, .ref xf, .int dy])), (xt, .inr (3, [.ref t1, .ref t2, .int zz, .int po, .int me, .int ml])), (t1, .inr (1, [.ref r1])), (r1, .inl (z 0, 40, .inl lt)), (t2, .inr (1, [.ref r2])), (r2, .inl (z 0, 40, .inl ty))] (some (.int zz)) := by
  refine RD_mk (cc := cX6_wanted) (maxL := 1) (ret := (some .int)) (by decide) rfl (Nat.le_of_ble_eq_true rfl) ?_
  intro p e s m below meth c hx hb hr hml hts hown hlocks hP hE hS hA ls hl
  have hK := hE.1
  have hown : s.vm.findClass RX6 = some m.cls := hown
  have hl : lv_has ls 1 [(0, .ref xo)] := hl
  refine lv_aload_n hx hb dX6_wanted_0 rfl (lv_at hl 0 rfl) ?_
  refine va_get (D := D) (ci := 6) (v := .ref xt) (C := RX6) (T := TX6) (N := 8) hx hb hts in_X6_wanted_X6 hown hK hP 0 rfl rfl 3 (by decide) (hts (.fieldLink RX6 35 "TypingCoach" "lesson" "LTypingCoach$Lesson;") (List.mem_of_getElem? (i := 1) rfl)) (fun _ h9 => h9) rfl dX6_wanted_1 ?_
  refine va_getN (D := D) (ci := 3) (v := .int zz) (C := RX3) (T := TX3) (N := 6) hx hb hts in_X6_wanted_X3 hown hK hP 1 rfl rfl 2 (by decide) (va_Nw.use rfl (hE.2.1.1 (104, "TypingCoach$Lesson", "size", "I") (List.mem_of_getElem? (i := 0) rfl))) (fun _ h9 => h9) rfl dX6_wanted_4 ?_
  exact rd_i hx hb hr hlocks dX6_wanted_7 (rfl)
set_option maxRecDepth 20000 in
theorem in_X6_wantedAt_X6 : ∀ w ∈ wsX60, w ∈ wsX6_wantedAt := mem_r _ [21, 22, 23, 24, 25, 26, 27, 28] (by decide +kernel)
set_option maxRecDepth 20000 in
theorem in_X6_wantedAt_X3 : ∀ w ∈ wsX30, w ∈ wsX6_wantedAt := mem_r _ [29, 30, 31, 32, 33, 34] (by decide +kernel)
theorem hd_X6_wantedAt : yX6_wantedAt.cls = RX6 ∧ yX6_wantedAt.cls ≠ "java/lang/invoke/MethodHandle" ∧ yX6_wantedAt.cls ≠ "java/lang/invoke/VarHandle" ∧ (parseMethodDescriptor yX6_wantedAt.desc).map (fun d => d.parameters.length) = some 1 := by decide +kernel
set_option maxHeartbeats 4000000 in
set_option maxRecDepth 100000 in
theorem c_X6_wantedAt (l : Launch) (D : va_G) (z : Nat → ClassId) (q : Nat → Nat) (xo : Nat) (xb : Nat) (xg : Nat) (xn : Nat) (xt : Nat) (xp : Nat) (xk : Nat) (xf : Nat) (dy : Int32) (t1 : Nat) (r1 : Nat) (t2 : Nat) (r2 : Nat) (lt : Nat → Int32) (ty : Nat → Int32) (zz : Int32) (po : Int32) (me : Int32) (ml : Int32) (i : Int32) (sz : Nat) (hlt : l.stackTraces = false) : TX l yX6_wantedAt wsX6_wantedAt ({ frames := 6, cells := 3, slots := 18, locals := 120 } : Room) D z q [.ref xo, .int i] [(xo, .inr (6, [.ref xb, .ref xg, .ref xn, .ref xt, .ref xp, .ref xk, .ref xf, .int dy])), (xt, .inr (3, [.ref t1, .ref t2, .int zz, .int po, .int me, .int ml])), (t1, .inr (1, [.ref r1])), (r1, .inl (z 0, 40, .inl lt)), (t2, .inr (1, [.ref r2])), (r2, .inl (z 0, 40, .inl ty))] sz [(xo, .inr (6, [.ref xb, .ref xg, .ref xn, .ref xt, .ref xp, .ref xk, .ref xf, .int dy])), (xt, .inr (3, [.ref t1, .ref t2, .int zz, .int po, .int me, .int ml])), (t1, .inr (1, [.ref r1])), (r1, .inl (z 0, 40, .inl lt)), (t2, .inr (1, [.ref r2])), (r2, .inl (z 0, 40, .inl ty))] (some (.int (tAt lt zz i))) (¬ bW i 0 (zz - 1) = 0) (fun E => (bW i 0 (zz - 1) = 0 ∧ E = xI)) := by
  refine TX_mk (Qc := fun A a st o t => (¬ bW i 0 (zz - 1) = 0) ∧ QW D [(xo, .inr (6, [.ref xb, .ref xg, .ref xn, .ref xt, .ref xp, .ref xk, .ref xf, .int dy])), (xt, .inr (3, [.ref t1, .ref t2, .int zz, .int po, .int me, .int ml])), (t1, .inr (1, [.ref r1])), (r1, .inl (z 0, 40, .inl lt)), (t2, .inr (1, [.ref r2])), (r2, .inl (z 0, 40, .inl ty))] A (some (.int (tAt lt zz i))) a st o t) (XC := XK (fun E => (bW i 0 (zz - 1) = 0 ∧ E = xI))) (mc := 3) (ms := 18) (cc := cX6_wantedAt) (maxL := 2) (ret := (some .int)) (by decide) rfl (Nat.le_of_ble_eq_true rfl) ?_
  intro p e s m below meth c A hx hb hr hml hts hown hlocks hout H hH0 hP hD hE hS hA ls hl
  have hK := hE.1
  have hown : s.vm.findClass RX6 = some m.cls := hown
  have hl : lv_has ls 2 [(0, .ref xo), (1, .int i)] := hl
  refine lv_iload_n hx hb dX6_wantedAt_0 rfl (lv_at hl 1 rfl) ?_
  refine lv_iconst (v := 0) hx hb dX6_wantedAt_1 (by decide) ?_
  refine lv_aload_n hx hb dX6_wantedAt_2 rfl (lv_at hl 0 rfl) ?_
  refine va_get (D := D) (ci := 6) (v := .ref xt) (C := RX6) (T := TX6) (N := 8) hx hb hts in_X6_wantedAt_X6 hown hK hP 0 rfl rfl 3 (by decide) (hts (.fieldLink RX6 35 "TypingCoach" "lesson" "LTypingCoach$Lesson;") (List.mem_of_getElem? (i := 3) rfl)) (fun _ h9 => h9) rfl dX6_wantedAt_3 ?_
  refine va_getN (D := D) (ci := 3) (v := .int zz) (C := RX3) (T := TX3) (N := 6) hx hb hts in_X6_wantedAt_X3 hown hK hP 1 rfl rfl 2 (by decide) (va_Nw.use rfl (hE.2.1.1 (104, "TypingCoach$Lesson", "size", "I") (List.mem_of_getElem? (i := 0) rfl))) (fun _ h9 => h9) rfl dX6_wantedAt_6 ?_
  refine lv_iconst (v := 1) hx hb dX6_wantedAt_9 (by decide) ?_
  refine lv_isub hx hb dX6_wantedAt_10 ?_
  refine rdS (As := [.int i, .int 0, .int (zz - 1)]) (rest := []) ⟨hx, hb, hml, hown, hts⟩ (c_X6_isWithin l D z q i 0 (zz - 1)) (va_cwS 3 hts gX6_wantedAt_X6_isWithin rfl rfl rfl hd_X6_isWithin ⟨Nat.le_of_ble_eq_true rfl, Nat.le_of_ble_eq_true rfl⟩) hE hS hA hP [] rfl rfl hl.1 rfl (Nat.le_of_ble_eq_true rfl) dX6_wantedAt_11 ⟨(Nat.le_of_ble_eq_true rfl), (Nat.le_of_ble_eq_true rfl)⟩ ?_
  refine lv_if_ne (tgt := 27) hx hb dX6_wantedAt_14 (by decide) (fun c_1 => ?_) (fun c_1 => ?_)
  · refine lv_aload_n hx hb dX6_wantedAt_27 rfl (lv_at hl 0 rfl) ?_
    refine va_get (D := D) (ci := 6) (v := .ref xt) (C := RX6) (T := TX6) (N := 8) hx hb hts in_X6_wantedAt_X6 hown hK hP 0 rfl rfl 3 (by decide) (hts (.fieldLink RX6 35 "TypingCoach" "lesson" "LTypingCoach$Lesson;") (List.mem_of_getElem? (i := 3) rfl)) (fun _ h9 => h9) rfl dX6_wantedAt_28 ?_
    refine lv_iload_n hx hb dX6_wantedAt_31 rfl (lv_at hl 1 rfl) ?_
    refine rdV (As := [.int i]) (rest := []) ⟨hx, hb, hml, hown, hts⟩ (c_X3_letterAt l D z q xt t1 r1 t2 r2 lt ty zz po me ml i) (cwV 1 hts gX6_wantedAt_X3_letterAt rfl rfl rfl hd_X3_letterAt ⟨Nat.le_of_ble_eq_true rfl, Nat.le_of_ble_eq_true rfl⟩) hE hS hA hP [1, 2, 3, 4, 5] rfl rfl rfl rfl rfl hl.1 rfl (Nat.le_of_ble_eq_true rfl) dX6_wantedAt_32 ⟨(Nat.le_of_ble_eq_true rfl), (Nat.le_of_ble_eq_true rfl)⟩ ?_
    exact tx_i hx hb hr hlocks hP hD hS dX6_wantedAt_35 (c_1) (rfl) (rfl) (Nat.le_of_ble_eq_true rfl) (Nat.le_of_ble_eq_true rfl)
  · exact thr (is := 119) (text := "no such position") (cls := xI) hx hb hlt hown fitI xIm (hts (.classLink RX6 70 "java/lang/IndexOutOfBoundsException") (List.mem_of_getElem? (i := 1) rfl)) (hts (.initialized "java/lang/IndexOutOfBoundsException") (List.mem_of_getElem? (i := 2) rfl)) (List.mem_of_getElem? (i := 1) rfl) ng74 (fun w h => hts w (List.mem_cons_of_mem _ (List.mem_append_right _ h))) gd74 hE hS hH0 hml hl.1 dX6_wantedAt_17 dX6_wantedAt_20 dX6_wantedAt_21 dX6_wantedAt_23 dX6_wantedAt_26 hout hlocks (Nat.le_of_ble_eq_true rfl) (Nat.le_of_ble_eq_true rfl) ⟨(Nat.le_of_ble_eq_true rfl), (Nat.le_of_ble_eq_true rfl)⟩ (⟨c_1, rfl⟩) (Nat.le_of_ble_eq_true rfl) (Nat.le_of_ble_eq_true rfl)
set_option maxRecDepth 20000 in
theorem in_X6_position_X6 : ∀ w ∈ wsX60, w ∈ wsX6_position := mem_r _ [2, 3, 4, 5, 6, 7, 8, 9] (by decide +kernel)
set_option maxRecDepth 20000 in
theorem in_X6_position_X3 : ∀ w ∈ wsX30, w ∈ wsX6_position := mem_r _ [10, 11, 12, 13, 14, 15] (by decide +kernel)
theorem hd_X6_position : yX6_position.cls = RX6 ∧ yX6_position.cls ≠ "java/lang/invoke/MethodHandle" ∧ yX6_position.cls ≠ "java/lang/invoke/VarHandle" ∧ (parseMethodDescriptor yX6_position.desc).map (fun d => d.parameters.length) = some 0 := by decide +kernel
set_option maxHeartbeats 4000000 in
set_option maxRecDepth 100000 in
theorem c_X6_position (l : Launch) (D : va_G) (z : Nat → ClassId) (q : Nat → Nat) (xo : Nat) (xb : Nat) (xg : Nat) (xn : Nat) (xt : Nat) (xp : Nat) (xk : Nat) (xf : Nat) (dy : Int32) (t1 : Nat) (r1 : Nat) (t2 : Nat) (r2 : Nat) (lt : Nat → Int32) (ty : Nat → Int32) (zz : Int32) (po : Int32) (me : Int32) (ml : Int32)  : RD l yX6_position wsX6_position ({ frames := 0, cells := 0, slots := 0, locals := 0 } : Room) D z q [.ref xo] [(xo, .inr (6, [.ref xb, .ref xg, .ref xn, .ref xt, .ref xp, .ref xk, .ref xf, .int dy])), (xt, .inr (3, [.ref t1, .ref t2, .int zz, .int po, .int me, .int ml])), (t1, .inr (1, [.ref r1])), (r1, .inl (z 0, 40, .inl lt)), (t2, .inr (1, [.ref r2])), (r2, .inl (z 0, 40, .inl ty))] (some (.int po)) := by
  refine RD_mk (cc := cX6_position) (maxL := 1) (ret := (some .int)) (by decide) rfl (Nat.le_of_ble_eq_true rfl) ?_
  intro p e s m below meth c hx hb hr hml hts hown hlocks hP hE hS hA ls hl
  have hK := hE.1
  have hown : s.vm.findClass RX6 = some m.cls := hown
  have hl : lv_has ls 1 [(0, .ref xo)] := hl
  refine lv_aload_n hx hb dX6_position_0 rfl (lv_at hl 0 rfl) ?_
  refine va_get (D := D) (ci := 6) (v := .ref xt) (C := RX6) (T := TX6) (N := 8) hx hb hts in_X6_position_X6 hown hK hP 0 rfl rfl 3 (by decide) (hts (.fieldLink RX6 35 "TypingCoach" "lesson" "LTypingCoach$Lesson;") (List.mem_of_getElem? (i := 1) rfl)) (fun _ h9 => h9) rfl dX6_position_1 ?_
  refine va_getN (D := D) (ci := 3) (v := .int po) (C := RX3) (T := TX3) (N := 6) hx hb hts in_X6_position_X3 hown hK hP 1 rfl rfl 3 (by decide) (va_Nw.use rfl (hE.2.1.1 (124, "TypingCoach$Lesson", "position", "I") (List.mem_of_getElem? (i := 1) rfl))) (fun _ h9 => h9) rfl dX6_position_4 ?_
  exact rd_i hx hb hr hlocks dX6_position_7 (rfl)
set_option maxRecDepth 20000 in
theorem in_X6_mended_X6 : ∀ w ∈ wsX60, w ∈ wsX6_mended := mem_r _ [2, 3, 4, 5, 6, 7, 8, 9] (by decide +kernel)
set_option maxRecDepth 20000 in
theorem in_X6_mended_X3 : ∀ w ∈ wsX30, w ∈ wsX6_mended := mem_r _ [10, 11, 12, 13, 14, 15] (by decide +kernel)
theorem hd_X6_mended : yX6_mended.cls = RX6 ∧ yX6_mended.cls ≠ "java/lang/invoke/MethodHandle" ∧ yX6_mended.cls ≠ "java/lang/invoke/VarHandle" ∧ (parseMethodDescriptor yX6_mended.desc).map (fun d => d.parameters.length) = some 0 := by decide +kernel
set_option maxHeartbeats 4000000 in
set_option maxRecDepth 100000 in
theorem c_X6_mended (l : Launch) (D : va_G) (z : Nat → ClassId) (q : Nat → Nat) (xo : Nat) (xb : Nat) (xg : Nat) (xn : Nat) (xt : Nat) (xp : Nat) (xk : Nat) (xf : Nat) (dy : Int32) (t1 : Nat) (r1 : Nat) (t2 : Nat) (r2 : Nat) (lt : Nat → Int32) (ty : Nat → Int32) (zz : Int32) (po : Int32) (me : Int32) (ml : Int32)  : RD l yX6_mended wsX6_mended ({ frames := 0, cells := 0, slots := 0, locals := 0 } : Room) D z q [.ref xo] [(xo, .inr (6, [.ref xb, .ref xg, .ref xn, .ref xt, .ref xp, .ref xk, .ref xf, .int dy])), (xt, .inr (3, [.ref t1, .ref t2, .int zz, .int po, .int me, .int ml])), (t1, .inr (1, [.ref r1])), (r1, .inl (z 0, 40, .inl lt)), (t2, .inr (1, [.ref r2])), (r2, .inl (z 0, 40, .inl ty))] (some (.int me)) := by
  refine RD_mk (cc := cX6_mended) (maxL := 1) (ret := (some .int)) (by decide) rfl (Nat.le_of_ble_eq_true rfl) ?_
  intro p e s m below meth c hx hb hr hml hts hown hlocks hP hE hS hA ls hl
  have hK := hE.1
  have hown : s.vm.findClass RX6 = some m.cls := hown
  have hl : lv_has ls 1 [(0, .ref xo)] := hl
  refine lv_aload_n hx hb dX6_mended_0 rfl (lv_at hl 0 rfl) ?_
  refine va_get (D := D) (ci := 6) (v := .ref xt) (C := RX6) (T := TX6) (N := 8) hx hb hts in_X6_mended_X6 hown hK hP 0 rfl rfl 3 (by decide) (hts (.fieldLink RX6 35 "TypingCoach" "lesson" "LTypingCoach$Lesson;") (List.mem_of_getElem? (i := 1) rfl)) (fun _ h9 => h9) rfl dX6_mended_1 ?_
  refine va_getN (D := D) (ci := 3) (v := .int me) (C := RX3) (T := TX3) (N := 6) hx hb hts in_X6_mended_X3 hown hK hP 1 rfl rfl 4 (by decide) (va_Nw.use rfl (hE.2.1.1 (157, "TypingCoach$Lesson", "mendedStrokes", "I") (List.mem_of_getElem? (i := 2) rfl))) (fun _ h9 => h9) rfl dX6_mended_4 ?_
  exact rd_i hx hb hr hlocks dX6_mended_7 (rfl)
set_option maxRecDepth 20000 in
theorem in_X6_speed_X6 : ∀ w ∈ wsX60, w ∈ wsX6_speed := mem_r _ [22, 23, 24, 25, 26, 27, 28, 29] (by decide +kernel)
theorem hd_X6_speed : yX6_speed.cls = RX6 ∧ yX6_speed.cls ≠ "java/lang/invoke/MethodHandle" ∧ yX6_speed.cls ≠ "java/lang/invoke/VarHandle" ∧ (parseMethodDescriptor yX6_speed.desc).map (fun d => d.parameters.length) = some 0 := by decide +kernel
set_option maxHeartbeats 4000000 in
set_option maxRecDepth 100000 in
theorem c_X6_speed (l : Launch) (D : va_G) (z : Nat → ClassId) (q : Nat → Nat) (xo : Nat) (xb : Nat) (xg : Nat) (xn : Nat) (xt : Nat) (xp : Nat) (xk : Nat) (xf : Nat) (dy : Int32) (t1 : Nat) (r1 : Nat) (t2 : Nat) (r2 : Nat) (lt : Nat → Int32) (ty : Nat → Int32) (zz : Int32) (po : Int32) (me : Int32) (ml : Int32) (ps : Nat) (hps : po = nI ps) (hp40 : ps ≤ 40) : RD l yX6_speed wsX6_speed ({ frames := 3, cells := 0, slots := 0, locals := 63 } : Room) D z q [.ref xo] [(xo, .inr (6, [.ref xb, .ref xg, .ref xn, .ref xt, .ref xp, .ref xk, .ref xf, .int dy])), (xt, .inr (3, [.ref t1, .ref t2, .int zz, .int po, .int me, .int ml])), (t1, .inr (1, [.ref r1])), (r1, .inl (z 0, 40, .inl lt)), (t2, .inr (1, [.ref r2])), (r2, .inl (z 0, 40, .inl ty))] (some (.int (tSpeed lt ty ps ml))) := by
  refine RD_mk (cc := cX6_speed) (maxL := 1) (ret := (some .int)) (by decide) rfl (Nat.le_of_ble_eq_true rfl) ?_
  intro p e s m below meth c hx hb hr hml hts hown hlocks hP hE hS hA ls hl
  have hK := hE.1
  have hown : s.vm.findClass RX6 = some m.cls := hown
  have hl : lv_has ls 1 [(0, .ref xo)] := hl
  refine lv_aload_n hx hb dX6_speed_0 rfl (lv_at hl 0 rfl) ?_
  refine va_get (D := D) (ci := 6) (v := .ref xt) (C := RX6) (T := TX6) (N := 8) hx hb hts in_X6_speed_X6 hown hK hP 0 rfl rfl 3 (by decide) (hts (.fieldLink RX6 35 "TypingCoach" "lesson" "LTypingCoach$Lesson;") (List.mem_of_getElem? (i := 1) rfl)) (fun _ h9 => h9) rfl dX6_speed_1 ?_
  refine rdV (As := []) (rest := []) ⟨hx, hb, hml, hown, hts⟩ (c_X3_speedSoFar l D z q xt t1 r1 t2 r2 lt ty zz po me ml ps hps hp40) (cwV 0 hts gX6_speed_X3_speedSoFar rfl rfl rfl hd_X3_speedSoFar ⟨Nat.le_of_ble_eq_true rfl, Nat.le_of_ble_eq_true rfl⟩) hE hS hA hP [1, 2, 3, 4, 5] rfl rfl rfl rfl rfl hl.1 rfl (Nat.le_of_ble_eq_true rfl) dX6_speed_4 ⟨(Nat.le_of_ble_eq_true rfl), (Nat.le_of_ble_eq_true rfl)⟩ ?_
  exact rd_i hx hb hr hlocks dX6_speed_7 (rfl)
set_option maxRecDepth 20000 in
theorem in_X6_back_X6 : ∀ w ∈ wsX60, w ∈ wsX6_back := mem_r _ [21, 22, 23, 24, 25, 26, 27, 28] (by decide +kernel)
set_option maxRecDepth 20000 in
theorem in_X6_back_X3 : ∀ w ∈ wsX30, w ∈ wsX6_back := mem_r _ [29, 30, 31, 32, 33, 34] (by decide +kernel)
theorem hd_X6_back : yX6_back.cls = RX6 ∧ yX6_back.cls ≠ "java/lang/invoke/MethodHandle" ∧ yX6_back.cls ≠ "java/lang/invoke/VarHandle" ∧ (parseMethodDescriptor yX6_back.desc).map (fun d => d.parameters.length) = some 1 := by decide +kernel
set_option maxHeartbeats 4000000 in
set_option maxRecDepth 100000 in
theorem c_X6_back (l : Launch) (D : va_G) (z : Nat → ClassId) (q : Nat → Nat) (xo : Nat) (xb : Nat) (xg : Nat) (xn : Nat) (xt : Nat) (xp : Nat) (xk : Nat) (xf : Nat) (dy : Int32) (t1 : Nat) (r1 : Nat) (t2 : Nat) (r2 : Nat) (lt : Nat → Int32) (ty : Nat → Int32) (zz : Int32) (po : Int32) (me : Int32) (ml : Int32) (mo : Int32) (sz : Nat) (hlt : l.stackTraces = false) : TX l yX6_back wsX6_back ({ frames := 7, cells := 3, slots := 18, locals := 140 } : Room) D z q [.ref xo, .int mo] [(xo, .inr (6, [.ref xb, .ref xg, .ref xn, .ref xt, .ref xp, .ref xk, .ref xf, .int dy])), (xt, .inr (3, [.ref t1, .ref t2, .int zz, .int po, .int me, .int ml])), (t1, .inr (1, [.ref r1])), (r1, .inl (z 0, 40, .inl lt)), (t2, .inr (1, [.ref r2])), (r2, .inl (z 0, 40, .inl ty))] sz [(xo, .inr (6, [.ref xb, .ref xg, .ref xn, .ref xt, .ref xp, .ref xk, .ref xf, .int dy])), (xt, .inr (3, [.ref t1, .ref t2, .int zz, .int (po - 1), .int (me + 1), .int (ml + mo)])), (t1, .inr (1, [.ref r1])), (r1, .inl (z 0, 40, .inl lt)), (t2, .inr (1, [.ref r2])), (r2, .inl (z 0, 40, .inl ty))] (some (.int (po - 1))) (¬ bW mo 1 5000 = 0 ∧ ¬ po = 0) (fun E => (bW mo 1 5000 = 0 ∧ E = xA) ∨ (¬ bW mo 1 5000 = 0 ∧ po = 0 ∧ E = xS)) := by
  refine TX_mk (Qc := fun A a st o t => (¬ bW mo 1 5000 = 0 ∧ ¬ po = 0) ∧ QW D [(xo, .inr (6, [.ref xb, .ref xg, .ref xn, .ref xt, .ref xp, .ref xk, .ref xf, .int dy])), (xt, .inr (3, [.ref t1, .ref t2, .int zz, .int (po - 1), .int (me + 1), .int (ml + mo)])), (t1, .inr (1, [.ref r1])), (r1, .inl (z 0, 40, .inl lt)), (t2, .inr (1, [.ref r2])), (r2, .inl (z 0, 40, .inl ty))] A (some (.int (po - 1))) a st o t) (XC := XK (fun E => (bW mo 1 5000 = 0 ∧ E = xA) ∨ (¬ bW mo 1 5000 = 0 ∧ po = 0 ∧ E = xS))) (mc := 3) (ms := 18) (cc := cX6_back) (maxL := 2) (ret := (some .int)) (by decide) rfl (Nat.le_of_ble_eq_true rfl) ?_
  intro p e s m below meth c A hx hb hr hml hts hown hlocks hout H hH0 hP hD hE hS hA ls hl
  have hK := hE.1
  have hown : s.vm.findClass RX6 = some m.cls := hown
  have hl : lv_has ls 2 [(0, .ref xo), (1, .int mo)] := hl
  refine lv_iload_n hx hb dX6_back_0 rfl (lv_at hl 1 rfl) ?_
  refine tsS (As := [.int mo]) (rest := []) (mc := 3) (ms := 18) ⟨hx, hb, hml, hown, hts⟩ (c_X6_needMillis l D z q mo hlt) (va_cwS 1 hts gX6_back_X6_needMillis rfl rfl rfl hd_X6_needMillis ⟨Nat.le_of_ble_eq_true rfl, Nat.le_of_ble_eq_true rfl⟩) hE hS hA hP hH0 hout hlocks rfl hl.1 rfl (Nat.le_of_ble_eq_true rfl) dX6_back_1 ⟨(Nat.le_of_ble_eq_true rfl), (Nat.le_of_ble_eq_true rfl)⟩ (fun E h => Or.inl ⟨h.1, h.2⟩) (Nat.le_of_ble_eq_true rfl) (Nat.le_of_ble_eq_true rfl) (fun c_1 => ?_)
  refine W.widen (k := 1) (n := 6) (Nat.le_refl _) (Nat.le_refl _) ?_
  refine lv_aload_n hx hb dX6_back_4 rfl (lv_at hl 0 rfl) ?_
  refine va_get (D := D) (ci := 6) (v := .ref xt) (C := RX6) (T := TX6) (N := 8) hx hb hts in_X6_back_X6 hown hK hP 0 rfl rfl 3 (by decide) (hts (.fieldLink RX6 35 "TypingCoach" "lesson" "LTypingCoach$Lesson;") (List.mem_of_getElem? (i := 3) rfl)) (fun _ h9 => h9) rfl dX6_back_5 ?_
  refine va_getN (D := D) (ci := 3) (v := .int po) (C := RX3) (T := TX3) (N := 6) hx hb hts in_X6_back_X3 hown hK hP 1 rfl rfl 3 (by decide) (va_Nw.use rfl (hE.2.1.1 (124, "TypingCoach$Lesson", "position", "I") (List.mem_of_getElem? (i := 1) rfl))) (fun _ h9 => h9) rfl dX6_back_8 ?_
  refine lv_if_ne (tgt := 24) hx hb dX6_back_11 (by decide) (fun c_2 => ?_) (fun c_2 => ?_)
  · refine lv_aload_n hx hb dX6_back_24 rfl (lv_at hl 0 rfl) ?_
    refine va_get (D := D) (ci := 6) (v := .ref xt) (C := RX6) (T := TX6) (N := 8) hx hb hts in_X6_back_X6 hown hK hP 0 rfl rfl 3 (by decide) (hts (.fieldLink RX6 35 "TypingCoach" "lesson" "LTypingCoach$Lesson;") (List.mem_of_getElem? (i := 3) rfl)) (fun _ h9 => h9) rfl dX6_back_25 ?_
    refine lv_iload_n hx hb dX6_back_28 rfl (lv_at hl 1 rfl) ?_
    refine wrVv (As := [.int mo]) (rest := []) ⟨hx, hb, hml, hown, hts⟩ (c_X3_goBack l D z q xt t1 r1 t2 r2 lt ty zz po me ml mo H.size) (cwV 1 hts gX6_back_X3_goBack rfl rfl rfl hd_X3_goBack ⟨Nat.le_of_ble_eq_true rfl, Nat.le_of_ble_eq_true rfl⟩) hE hS hA hP hD [1, 2, 3, 4, 5] rfl rfl rfl rfl rfl rfl rfl hl.1 rfl (Nat.le_of_ble_eq_true rfl) dX6_back_29 ⟨(Nat.le_of_ble_eq_true rfl), (Nat.le_of_ble_eq_true rfl)⟩ (fun H locs hP hD hS => ?_)
    have hP : va_P D vwCl [(xo, .inr (6, [.ref xb, .ref xg, .ref xn, .ref xt, .ref xp, .ref xk, .ref xf, .int dy])), (xt, .inr (3, [.ref t1, .ref t2, .int zz, .int (po - 1), .int (me + 1), .int (ml + mo)])), (t1, .inr (1, [.ref r1])), (r1, .inl (z 0, 40, .inl lt)), (t2, .inr (1, [.ref r2])), (r2, .inl (z 0, 40, .inl ty))] H := hP
    have hD : va_D A [(xo, .inr (6, [.ref xb, .ref xg, .ref xn, .ref xt, .ref xp, .ref xk, .ref xf, .int dy])), (xt, .inr (3, [.ref t1, .ref t2, .int zz, .int (po - 1), .int (me + 1), .int (ml + mo)])), (t1, .inr (1, [.ref r1])), (r1, .inl (z 0, 40, .inl lt)), (t2, .inr (1, [.ref r2])), (r2, .inl (z 0, 40, .inl ty))] := hD
    refine lv_aload_n hx hb dX6_back_32 rfl (lv_at hl 0 rfl) ?_
    refine va_get (D := D) (ci := 6) (v := .ref xt) (C := RX6) (T := TX6) (N := 8) hx hb hts in_X6_back_X6 hown hK hP 0 rfl rfl 3 (by decide) (hts (.fieldLink RX6 35 "TypingCoach" "lesson" "LTypingCoach$Lesson;") (List.mem_of_getElem? (i := 3) rfl)) (fun _ h9 => h9) rfl dX6_back_33 ?_
    refine va_getN (D := D) (ci := 3) (v := .int (po - 1)) (C := RX3) (T := TX3) (N := 6) hx hb hts in_X6_back_X3 hown hK hP 1 rfl rfl 3 (by decide) (va_Nw.use rfl (hE.2.1.1 (124, "TypingCoach$Lesson", "position", "I") (List.mem_of_getElem? (i := 1) rfl))) (fun _ h9 => h9) rfl dX6_back_36 ?_
    exact tx_i hx hb hr hlocks hP hD hS dX6_back_39 (⟨c_1, c_2⟩) (rfl) (rfl) (Nat.le_of_ble_eq_true rfl) (Nat.le_of_ble_eq_true rfl)
  · exact thr (is := 149) (text := "the position is 0") (cls := xS) hx hb hlt hown fitS xSm (hts (.classLink RX6 96 "java/lang/IllegalStateException") (List.mem_of_getElem? (i := 1) rfl)) (hts (.initialized "java/lang/IllegalStateException") (List.mem_of_getElem? (i := 2) rfl)) (List.mem_of_getElem? (i := 3) rfl) ng100 (fun w h => hts w (List.mem_cons_of_mem _ (List.mem_append_left _ (List.mem_append_right _ h)))) gd100 hE hS hH0 hml hl.1 dX6_back_14 dX6_back_17 dX6_back_18 dX6_back_20 dX6_back_23 hout hlocks (Nat.le_of_ble_eq_true rfl) (Nat.le_of_ble_eq_true rfl) ⟨(Nat.le_of_ble_eq_true rfl), (Nat.le_of_ble_eq_true rfl)⟩ (Or.inr (⟨c_1, c_2, rfl⟩)) (Nat.le_of_ble_eq_true rfl) (Nat.le_of_ble_eq_true rfl)
set_option maxRecDepth 20000 in
theorem in_X6_count_X6 : ∀ w ∈ wsX60, w ∈ wsX6_count := mem_r _ [17, 18, 19, 20, 21, 22, 23, 24] (by decide +kernel)
set_option maxRecDepth 20000 in
theorem in_X6_count_X2 : ∀ w ∈ wsX20, w ∈ wsX6_count := mem_r _ [25, 26, 27, 28, 29, 30] (by decide +kernel)
theorem hd_X6_count : yX6_count.cls = RX6 ∧ yX6_count.cls ≠ "java/lang/invoke/MethodHandle" ∧ yX6_count.cls ≠ "java/lang/invoke/VarHandle" ∧ (parseMethodDescriptor yX6_count.desc).map (fun d => d.parameters.length) = some 1 := by decide +kernel
set_option maxHeartbeats 4000000 in
set_option maxRecDepth 100000 in
theorem c_X6_count (l : Launch) (D : va_G) (z : Nat → ClassId) (q : Nat → Nat) (xo : Nat) (xb : Nat) (xg : Nat) (xn : Nat) (xt : Nat) (xp : Nat) (xk : Nat) (xf : Nat) (dy : Int32) (g1 : Nat) (y1 : Nat) (g2 : Nat) (y2 : Nat) (g3 : Nat) (y3 : Nat) (g4 : Nat) (y4 : Nat) (ct : Nat → Int32) (ti : Nat → Int32) (sh : Nat → Int32) (pr : Nat → Int32) (wt : Int32) (wh : Int32) (i : Int32) (sz : Nat) (hlt : l.stackTraces = false) : TX l yX6_count wsX6_count ({ frames := 7, cells := 3, slots := 18, locals := 140 } : Room) D z q [.ref xo, .int i] [(xo, .inr (6, [.ref xb, .ref xg, .ref xn, .ref xt, .ref xp, .ref xk, .ref xf, .int dy])), (xg, .inr (2, [.ref g1, .ref g2, .ref g3, .ref g4, .int wt, .int wh])), (g1, .inr (1, [.ref y1])), (y1, .inl (z 0, 26, .inl ct)), (g2, .inr (1, [.ref y2])), (y2, .inl (z 0, 26, .inl ti)), (g3, .inr (1, [.ref y3])), (y3, .inl (z 0, 26, .inl sh)), (g4, .inr (1, [.ref y4])), (y4, .inl (z 0, 676, .inl pr))] sz [(xo, .inr (6, [.ref xb, .ref xg, .ref xn, .ref xt, .ref xp, .ref xk, .ref xf, .int dy])), (xg, .inr (2, [.ref g1, .ref g2, .ref g3, .ref g4, .int wt, .int wh])), (g1, .inr (1, [.ref y1])), (y1, .inl (z 0, 26, .inl ct)), (g2, .inr (1, [.ref y2])), (y2, .inl (z 0, 26, .inl ti)), (g3, .inr (1, [.ref y3])), (y3, .inl (z 0, 26, .inl sh)), (g4, .inr (1, [.ref y4])), (y4, .inl (z 0, 676, .inl pr))] (some (.int (cAt 26 ct i))) (¬ bW i 0 25 = 0) (fun E => (bW i 0 25 = 0 ∧ E = xI)) := by
  refine TX_mk (Qc := fun A a st o t => (¬ bW i 0 25 = 0) ∧ QW D [(xo, .inr (6, [.ref xb, .ref xg, .ref xn, .ref xt, .ref xp, .ref xk, .ref xf, .int dy])), (xg, .inr (2, [.ref g1, .ref g2, .ref g3, .ref g4, .int wt, .int wh])), (g1, .inr (1, [.ref y1])), (y1, .inl (z 0, 26, .inl ct)), (g2, .inr (1, [.ref y2])), (y2, .inl (z 0, 26, .inl ti)), (g3, .inr (1, [.ref y3])), (y3, .inl (z 0, 26, .inl sh)), (g4, .inr (1, [.ref y4])), (y4, .inl (z 0, 676, .inl pr))] A (some (.int (cAt 26 ct i))) a st o t) (XC := XK (fun E => (bW i 0 25 = 0 ∧ E = xI))) (mc := 3) (ms := 18) (cc := cX6_count) (maxL := 2) (ret := (some .int)) (by decide) rfl (Nat.le_of_ble_eq_true rfl) ?_
  intro p e s m below meth c A hx hb hr hml hts hown hlocks hout H hH0 hP hD hE hS hA ls hl
  have hK := hE.1
  have hown : s.vm.findClass RX6 = some m.cls := hown
  have hl : lv_has ls 2 [(0, .ref xo), (1, .int i)] := hl
  refine lv_iload_n hx hb dX6_count_0 rfl (lv_at hl 1 rfl) ?_
  refine tsS (As := [.int i]) (rest := []) (mc := 3) (ms := 18) ⟨hx, hb, hml, hown, hts⟩ (c_X6_needLetter l D z q i hlt) (va_cwS 1 hts gX6_count_X6_needLetter rfl rfl rfl hd_X6_needLetter ⟨Nat.le_of_ble_eq_true rfl, Nat.le_of_ble_eq_true rfl⟩) hE hS hA hP hH0 hout hlocks rfl hl.1 rfl (Nat.le_of_ble_eq_true rfl) dX6_count_1 ⟨(Nat.le_of_ble_eq_true rfl), (Nat.le_of_ble_eq_true rfl)⟩ (fun E h => ⟨h.1, h.2⟩) (Nat.le_of_ble_eq_true rfl) (Nat.le_of_ble_eq_true rfl) (fun c_1 => ?_)
  refine W.widen (k := 1) (n := 6) (Nat.le_refl _) (Nat.le_refl _) ?_
  refine lv_aload_n hx hb dX6_count_4 rfl (lv_at hl 0 rfl) ?_
  refine va_get (D := D) (ci := 6) (v := .ref xg) (C := RX6) (T := TX6) (N := 8) hx hb hts in_X6_count_X6 hown hK hP 0 rfl rfl 1 (by decide) (hts (.fieldLink RX6 19 "TypingCoach" "figures" "LTypingCoach$Figures;") (List.mem_of_getElem? (i := 1) rfl)) (fun _ h9 => h9) rfl dX6_count_5 ?_
  refine va_getN (D := D) (ci := 2) (v := .ref g1) (C := RX2) (T := TX2) (N := 6) hx hb hts in_X6_count_X2 hown hK hP 1 rfl rfl 0 (by decide) (va_Nw.use rfl (hE.2.1.1 (172, "TypingCoach$Figures", "counts", "LTypingCoach$Cells;") (List.mem_of_getElem? (i := 3) rfl))) (fun _ h9 => h9) rfl dX6_count_8 ?_
  refine lv_iload_n hx hb dX6_count_11 rfl (lv_at hl 1 rfl) ?_
  refine rdV (As := [.int i]) (rest := []) ⟨hx, hb, hml, hown, hts⟩ (c_X1_at l D z q g1 y1 26 ct i (Nat.le_of_ble_eq_true rfl)) (cwV 1 hts gX6_count_X1_at rfl rfl rfl hd_X1_at ⟨Nat.le_of_ble_eq_true rfl, Nat.le_of_ble_eq_true rfl⟩) hE hS hA hP [2, 3] rfl rfl rfl rfl rfl hl.1 rfl (Nat.le_of_ble_eq_true rfl) dX6_count_12 ⟨(Nat.le_of_ble_eq_true rfl), (Nat.le_of_ble_eq_true rfl)⟩ ?_
  exact tx_i hx hb hr hlocks hP hD hS dX6_count_15 (c_1) (rfl) (rfl) (Nat.le_of_ble_eq_true rfl) (Nat.le_of_ble_eq_true rfl)
set_option maxRecDepth 20000 in
theorem in_X6_time_X6 : ∀ w ∈ wsX60, w ∈ wsX6_time := mem_r _ [17, 18, 19, 20, 21, 22, 23, 24] (by decide +kernel)
set_option maxRecDepth 20000 in
theorem in_X6_time_X2 : ∀ w ∈ wsX20, w ∈ wsX6_time := mem_r _ [25, 26, 27, 28, 29, 30] (by decide +kernel)
theorem hd_X6_time : yX6_time.cls = RX6 ∧ yX6_time.cls ≠ "java/lang/invoke/MethodHandle" ∧ yX6_time.cls ≠ "java/lang/invoke/VarHandle" ∧ (parseMethodDescriptor yX6_time.desc).map (fun d => d.parameters.length) = some 1 := by decide +kernel
set_option maxHeartbeats 4000000 in
set_option maxRecDepth 100000 in
theorem c_X6_time (l : Launch) (D : va_G) (z : Nat → ClassId) (q : Nat → Nat) (xo : Nat) (xb : Nat) (xg : Nat) (xn : Nat) (xt : Nat) (xp : Nat) (xk : Nat) (xf : Nat) (dy : Int32) (g1 : Nat) (y1 : Nat) (g2 : Nat) (y2 : Nat) (g3 : Nat) (y3 : Nat) (g4 : Nat) (y4 : Nat) (ct : Nat → Int32) (ti : Nat → Int32) (sh : Nat → Int32) (pr : Nat → Int32) (wt : Int32) (wh : Int32) (i : Int32) (sz : Nat) (hlt : l.stackTraces = false) : TX l yX6_time wsX6_time ({ frames := 7, cells := 3, slots := 18, locals := 140 } : Room) D z q [.ref xo, .int i] [(xo, .inr (6, [.ref xb, .ref xg, .ref xn, .ref xt, .ref xp, .ref xk, .ref xf, .int dy])), (xg, .inr (2, [.ref g1, .ref g2, .ref g3, .ref g4, .int wt, .int wh])), (g1, .inr (1, [.ref y1])), (y1, .inl (z 0, 26, .inl ct)), (g2, .inr (1, [.ref y2])), (y2, .inl (z 0, 26, .inl ti)), (g3, .inr (1, [.ref y3])), (y3, .inl (z 0, 26, .inl sh)), (g4, .inr (1, [.ref y4])), (y4, .inl (z 0, 676, .inl pr))] sz [(xo, .inr (6, [.ref xb, .ref xg, .ref xn, .ref xt, .ref xp, .ref xk, .ref xf, .int dy])), (xg, .inr (2, [.ref g1, .ref g2, .ref g3, .ref g4, .int wt, .int wh])), (g1, .inr (1, [.ref y1])), (y1, .inl (z 0, 26, .inl ct)), (g2, .inr (1, [.ref y2])), (y2, .inl (z 0, 26, .inl ti)), (g3, .inr (1, [.ref y3])), (y3, .inl (z 0, 26, .inl sh)), (g4, .inr (1, [.ref y4])), (y4, .inl (z 0, 676, .inl pr))] (some (.int (cAt 26 ti i))) (¬ bW i 0 25 = 0) (fun E => (bW i 0 25 = 0 ∧ E = xI)) := by
  refine TX_mk (Qc := fun A a st o t => (¬ bW i 0 25 = 0) ∧ QW D [(xo, .inr (6, [.ref xb, .ref xg, .ref xn, .ref xt, .ref xp, .ref xk, .ref xf, .int dy])), (xg, .inr (2, [.ref g1, .ref g2, .ref g3, .ref g4, .int wt, .int wh])), (g1, .inr (1, [.ref y1])), (y1, .inl (z 0, 26, .inl ct)), (g2, .inr (1, [.ref y2])), (y2, .inl (z 0, 26, .inl ti)), (g3, .inr (1, [.ref y3])), (y3, .inl (z 0, 26, .inl sh)), (g4, .inr (1, [.ref y4])), (y4, .inl (z 0, 676, .inl pr))] A (some (.int (cAt 26 ti i))) a st o t) (XC := XK (fun E => (bW i 0 25 = 0 ∧ E = xI))) (mc := 3) (ms := 18) (cc := cX6_time) (maxL := 2) (ret := (some .int)) (by decide) rfl (Nat.le_of_ble_eq_true rfl) ?_
  intro p e s m below meth c A hx hb hr hml hts hown hlocks hout H hH0 hP hD hE hS hA ls hl
  have hK := hE.1
  have hown : s.vm.findClass RX6 = some m.cls := hown
  have hl : lv_has ls 2 [(0, .ref xo), (1, .int i)] := hl
  refine lv_iload_n hx hb dX6_time_0 rfl (lv_at hl 1 rfl) ?_
  refine tsS (As := [.int i]) (rest := []) (mc := 3) (ms := 18) ⟨hx, hb, hml, hown, hts⟩ (c_X6_needLetter l D z q i hlt) (va_cwS 1 hts gX6_time_X6_needLetter rfl rfl rfl hd_X6_needLetter ⟨Nat.le_of_ble_eq_true rfl, Nat.le_of_ble_eq_true rfl⟩) hE hS hA hP hH0 hout hlocks rfl hl.1 rfl (Nat.le_of_ble_eq_true rfl) dX6_time_1 ⟨(Nat.le_of_ble_eq_true rfl), (Nat.le_of_ble_eq_true rfl)⟩ (fun E h => ⟨h.1, h.2⟩) (Nat.le_of_ble_eq_true rfl) (Nat.le_of_ble_eq_true rfl) (fun c_1 => ?_)
  refine W.widen (k := 1) (n := 6) (Nat.le_refl _) (Nat.le_refl _) ?_
  refine lv_aload_n hx hb dX6_time_4 rfl (lv_at hl 0 rfl) ?_
  refine va_get (D := D) (ci := 6) (v := .ref xg) (C := RX6) (T := TX6) (N := 8) hx hb hts in_X6_time_X6 hown hK hP 0 rfl rfl 1 (by decide) (hts (.fieldLink RX6 19 "TypingCoach" "figures" "LTypingCoach$Figures;") (List.mem_of_getElem? (i := 1) rfl)) (fun _ h9 => h9) rfl dX6_time_5 ?_
  refine va_getN (D := D) (ci := 2) (v := .ref g2) (C := RX2) (T := TX2) (N := 6) hx hb hts in_X6_time_X2 hown hK hP 1 rfl rfl 1 (by decide) (va_Nw.use rfl (hE.2.1.1 (178, "TypingCoach$Figures", "times", "LTypingCoach$Cells;") (List.mem_of_getElem? (i := 4) rfl))) (fun _ h9 => h9) rfl dX6_time_8 ?_
  refine lv_iload_n hx hb dX6_time_11 rfl (lv_at hl 1 rfl) ?_
  refine rdV (As := [.int i]) (rest := []) ⟨hx, hb, hml, hown, hts⟩ (c_X1_at l D z q g2 y2 26 ti i (Nat.le_of_ble_eq_true rfl)) (cwV 1 hts gX6_time_X1_at rfl rfl rfl hd_X1_at ⟨Nat.le_of_ble_eq_true rfl, Nat.le_of_ble_eq_true rfl⟩) hE hS hA hP [4, 5] rfl rfl rfl rfl rfl hl.1 rfl (Nat.le_of_ble_eq_true rfl) dX6_time_12 ⟨(Nat.le_of_ble_eq_true rfl), (Nat.le_of_ble_eq_true rfl)⟩ ?_
  exact tx_i hx hb hr hlocks hP hD hS dX6_time_15 (c_1) (rfl) (rfl) (Nat.le_of_ble_eq_true rfl) (Nat.le_of_ble_eq_true rfl)
set_option maxRecDepth 20000 in
theorem in_X6_share_X6 : ∀ w ∈ wsX60, w ∈ wsX6_share := mem_r _ [17, 18, 19, 20, 21, 22, 23, 24] (by decide +kernel)
set_option maxRecDepth 20000 in
theorem in_X6_share_X2 : ∀ w ∈ wsX20, w ∈ wsX6_share := mem_r _ [25, 26, 27, 28, 29, 30] (by decide +kernel)
theorem hd_X6_share : yX6_share.cls = RX6 ∧ yX6_share.cls ≠ "java/lang/invoke/MethodHandle" ∧ yX6_share.cls ≠ "java/lang/invoke/VarHandle" ∧ (parseMethodDescriptor yX6_share.desc).map (fun d => d.parameters.length) = some 1 := by decide +kernel
set_option maxHeartbeats 4000000 in
set_option maxRecDepth 100000 in
theorem c_X6_share (l : Launch) (D : va_G) (z : Nat → ClassId) (q : Nat → Nat) (xo : Nat) (xb : Nat) (xg : Nat) (xn : Nat) (xt : Nat) (xp : Nat) (xk : Nat) (xf : Nat) (dy : Int32) (g1 : Nat) (y1 : Nat) (g2 : Nat) (y2 : Nat) (g3 : Nat) (y3 : Nat) (g4 : Nat) (y4 : Nat) (ct : Nat → Int32) (ti : Nat → Int32) (sh : Nat → Int32) (pr : Nat → Int32) (wt : Int32) (wh : Int32) (i : Int32) (sz : Nat) (hlt : l.stackTraces = false) : TX l yX6_share wsX6_share ({ frames := 7, cells := 3, slots := 18, locals := 140 } : Room) D z q [.ref xo, .int i] [(xo, .inr (6, [.ref xb, .ref xg, .ref xn, .ref xt, .ref xp, .ref xk, .ref xf, .int dy])), (xg, .inr (2, [.ref g1, .ref g2, .ref g3, .ref g4, .int wt, .int wh])), (g1, .inr (1, [.ref y1])), (y1, .inl (z 0, 26, .inl ct)), (g2, .inr (1, [.ref y2])), (y2, .inl (z 0, 26, .inl ti)), (g3, .inr (1, [.ref y3])), (y3, .inl (z 0, 26, .inl sh)), (g4, .inr (1, [.ref y4])), (y4, .inl (z 0, 676, .inl pr))] sz [(xo, .inr (6, [.ref xb, .ref xg, .ref xn, .ref xt, .ref xp, .ref xk, .ref xf, .int dy])), (xg, .inr (2, [.ref g1, .ref g2, .ref g3, .ref g4, .int wt, .int wh])), (g1, .inr (1, [.ref y1])), (y1, .inl (z 0, 26, .inl ct)), (g2, .inr (1, [.ref y2])), (y2, .inl (z 0, 26, .inl ti)), (g3, .inr (1, [.ref y3])), (y3, .inl (z 0, 26, .inl sh)), (g4, .inr (1, [.ref y4])), (y4, .inl (z 0, 676, .inl pr))] (some (.int (cAt 26 sh i))) (¬ bW i 0 25 = 0) (fun E => (bW i 0 25 = 0 ∧ E = xI)) := by
  refine TX_mk (Qc := fun A a st o t => (¬ bW i 0 25 = 0) ∧ QW D [(xo, .inr (6, [.ref xb, .ref xg, .ref xn, .ref xt, .ref xp, .ref xk, .ref xf, .int dy])), (xg, .inr (2, [.ref g1, .ref g2, .ref g3, .ref g4, .int wt, .int wh])), (g1, .inr (1, [.ref y1])), (y1, .inl (z 0, 26, .inl ct)), (g2, .inr (1, [.ref y2])), (y2, .inl (z 0, 26, .inl ti)), (g3, .inr (1, [.ref y3])), (y3, .inl (z 0, 26, .inl sh)), (g4, .inr (1, [.ref y4])), (y4, .inl (z 0, 676, .inl pr))] A (some (.int (cAt 26 sh i))) a st o t) (XC := XK (fun E => (bW i 0 25 = 0 ∧ E = xI))) (mc := 3) (ms := 18) (cc := cX6_share) (maxL := 2) (ret := (some .int)) (by decide) rfl (Nat.le_of_ble_eq_true rfl) ?_
  intro p e s m below meth c A hx hb hr hml hts hown hlocks hout H hH0 hP hD hE hS hA ls hl
  have hK := hE.1
  have hown : s.vm.findClass RX6 = some m.cls := hown
  have hl : lv_has ls 2 [(0, .ref xo), (1, .int i)] := hl
  refine lv_iload_n hx hb dX6_share_0 rfl (lv_at hl 1 rfl) ?_
  refine tsS (As := [.int i]) (rest := []) (mc := 3) (ms := 18) ⟨hx, hb, hml, hown, hts⟩ (c_X6_needLetter l D z q i hlt) (va_cwS 1 hts gX6_share_X6_needLetter rfl rfl rfl hd_X6_needLetter ⟨Nat.le_of_ble_eq_true rfl, Nat.le_of_ble_eq_true rfl⟩) hE hS hA hP hH0 hout hlocks rfl hl.1 rfl (Nat.le_of_ble_eq_true rfl) dX6_share_1 ⟨(Nat.le_of_ble_eq_true rfl), (Nat.le_of_ble_eq_true rfl)⟩ (fun E h => ⟨h.1, h.2⟩) (Nat.le_of_ble_eq_true rfl) (Nat.le_of_ble_eq_true rfl) (fun c_1 => ?_)
  refine W.widen (k := 1) (n := 6) (Nat.le_refl _) (Nat.le_refl _) ?_
  refine lv_aload_n hx hb dX6_share_4 rfl (lv_at hl 0 rfl) ?_
  refine va_get (D := D) (ci := 6) (v := .ref xg) (C := RX6) (T := TX6) (N := 8) hx hb hts in_X6_share_X6 hown hK hP 0 rfl rfl 1 (by decide) (hts (.fieldLink RX6 19 "TypingCoach" "figures" "LTypingCoach$Figures;") (List.mem_of_getElem? (i := 1) rfl)) (fun _ h9 => h9) rfl dX6_share_5 ?_
  refine va_getN (D := D) (ci := 2) (v := .ref g3) (C := RX2) (T := TX2) (N := 6) hx hb hts in_X6_share_X2 hown hK hP 1 rfl rfl 2 (by decide) (va_Nw.use rfl (hE.2.1.1 (181, "TypingCoach$Figures", "shares", "LTypingCoach$Cells;") (List.mem_of_getElem? (i := 5) rfl))) (fun _ h9 => h9) rfl dX6_share_8 ?_
  refine lv_iload_n hx hb dX6_share_11 rfl (lv_at hl 1 rfl) ?_
  refine rdV (As := [.int i]) (rest := []) ⟨hx, hb, hml, hown, hts⟩ (c_X1_at l D z q g3 y3 26 sh i (Nat.le_of_ble_eq_true rfl)) (cwV 1 hts gX6_share_X1_at rfl rfl rfl hd_X1_at ⟨Nat.le_of_ble_eq_true rfl, Nat.le_of_ble_eq_true rfl⟩) hE hS hA hP [6, 7] rfl rfl rfl rfl rfl hl.1 rfl (Nat.le_of_ble_eq_true rfl) dX6_share_12 ⟨(Nat.le_of_ble_eq_true rfl), (Nat.le_of_ble_eq_true rfl)⟩ ?_
  exact tx_i hx hb hr hlocks hP hD hS dX6_share_15 (c_1) (rfl) (rfl) (Nat.le_of_ble_eq_true rfl) (Nat.le_of_ble_eq_true rfl)
set_option maxRecDepth 20000 in
theorem in_X6_pairTime_X6 : ∀ w ∈ wsX60, w ∈ wsX6_pairTime := mem_r _ [26, 27, 28, 29, 30, 31, 32, 33] (by decide +kernel)
theorem hd_X6_pairTime : yX6_pairTime.cls = RX6 ∧ yX6_pairTime.cls ≠ "java/lang/invoke/MethodHandle" ∧ yX6_pairTime.cls ≠ "java/lang/invoke/VarHandle" ∧ (parseMethodDescriptor yX6_pairTime.desc).map (fun d => d.parameters.length) = some 2 := by decide +kernel
set_option maxHeartbeats 4000000 in
set_option maxRecDepth 100000 in
theorem c_X6_pairTime (l : Launch) (D : va_G) (z : Nat → ClassId) (q : Nat → Nat) (xo : Nat) (xb : Nat) (xg : Nat) (xn : Nat) (xt : Nat) (xp : Nat) (xk : Nat) (xf : Nat) (dy : Int32) (g1 : Nat) (y1 : Nat) (g2 : Nat) (y2 : Nat) (g3 : Nat) (y3 : Nat) (g4 : Nat) (y4 : Nat) (ct : Nat → Int32) (ti : Nat → Int32) (sh : Nat → Int32) (pr : Nat → Int32) (wt : Int32) (wh : Int32) (i : Int32) (j : Int32) (sz : Nat) (hlt : l.stackTraces = false) : TX l yX6_pairTime wsX6_pairTime ({ frames := 7, cells := 3, slots := 18, locals := 140 } : Room) D z q [.ref xo, .int i, .int j] [(xo, .inr (6, [.ref xb, .ref xg, .ref xn, .ref xt, .ref xp, .ref xk, .ref xf, .int dy])), (xg, .inr (2, [.ref g1, .ref g2, .ref g3, .ref g4, .int wt, .int wh])), (g1, .inr (1, [.ref y1])), (y1, .inl (z 0, 26, .inl ct)), (g2, .inr (1, [.ref y2])), (y2, .inl (z 0, 26, .inl ti)), (g3, .inr (1, [.ref y3])), (y3, .inl (z 0, 26, .inl sh)), (g4, .inr (1, [.ref y4])), (y4, .inl (z 0, 676, .inl pr))] sz [(xo, .inr (6, [.ref xb, .ref xg, .ref xn, .ref xt, .ref xp, .ref xk, .ref xf, .int dy])), (xg, .inr (2, [.ref g1, .ref g2, .ref g3, .ref g4, .int wt, .int wh])), (g1, .inr (1, [.ref y1])), (y1, .inl (z 0, 26, .inl ct)), (g2, .inr (1, [.ref y2])), (y2, .inl (z 0, 26, .inl ti)), (g3, .inr (1, [.ref y3])), (y3, .inl (z 0, 26, .inl sh)), (g4, .inr (1, [.ref y4])), (y4, .inl (z 0, 676, .inl pr))] (some (.int (cAt 676 pr (fPair i j)))) (¬ bW i 0 25 = 0 ∧ ¬ bW j 0 25 = 0) (fun E => (bW i 0 25 = 0 ∧ E = xI) ∨ (¬ bW i 0 25 = 0 ∧ bW j 0 25 = 0 ∧ E = xI)) := by
  refine TX_mk (Qc := fun A a st o t => (¬ bW i 0 25 = 0 ∧ ¬ bW j 0 25 = 0) ∧ QW D [(xo, .inr (6, [.ref xb, .ref xg, .ref xn, .ref xt, .ref xp, .ref xk, .ref xf, .int dy])), (xg, .inr (2, [.ref g1, .ref g2, .ref g3, .ref g4, .int wt, .int wh])), (g1, .inr (1, [.ref y1])), (y1, .inl (z 0, 26, .inl ct)), (g2, .inr (1, [.ref y2])), (y2, .inl (z 0, 26, .inl ti)), (g3, .inr (1, [.ref y3])), (y3, .inl (z 0, 26, .inl sh)), (g4, .inr (1, [.ref y4])), (y4, .inl (z 0, 676, .inl pr))] A (some (.int (cAt 676 pr (fPair i j)))) a st o t) (XC := XK (fun E => (bW i 0 25 = 0 ∧ E = xI) ∨ (¬ bW i 0 25 = 0 ∧ bW j 0 25 = 0 ∧ E = xI))) (mc := 3) (ms := 18) (cc := cX6_pairTime) (maxL := 3) (ret := (some .int)) (by decide) rfl (Nat.le_of_ble_eq_true rfl) ?_
  intro p e s m below meth c A hx hb hr hml hts hown hlocks hout H hH0 hP hD hE hS hA ls hl
  have hK := hE.1
  have hown : s.vm.findClass RX6 = some m.cls := hown
  have hl : lv_has ls 3 [(0, .ref xo), (1, .int i), (2, .int j)] := hl
  refine lv_iload_n hx hb dX6_pairTime_0 rfl (lv_at hl 1 rfl) ?_
  refine tsS (As := [.int i]) (rest := []) (mc := 3) (ms := 18) ⟨hx, hb, hml, hown, hts⟩ (c_X6_needLetter l D z q i hlt) (va_cwS 1 hts gX6_pairTime_X6_needLetter rfl rfl rfl hd_X6_needLetter ⟨Nat.le_of_ble_eq_true rfl, Nat.le_of_ble_eq_true rfl⟩) hE hS hA hP hH0 hout hlocks rfl hl.1 rfl (Nat.le_of_ble_eq_true rfl) dX6_pairTime_1 ⟨(Nat.le_of_ble_eq_true rfl), (Nat.le_of_ble_eq_true rfl)⟩ (fun E h => Or.inl ⟨h.1, h.2⟩) (Nat.le_of_ble_eq_true rfl) (Nat.le_of_ble_eq_true rfl) (fun c_1 => ?_)
  refine W.widen (k := 1) (n := 6) (Nat.le_refl _) (Nat.le_refl _) ?_
  refine lv_iload_n hx hb dX6_pairTime_4 rfl (lv_at hl 2 rfl) ?_
  refine tsS (As := [.int j]) (rest := []) (mc := 3) (ms := 18) ⟨hx, hb, hml, hown, hts⟩ (c_X6_needLetter l D z q j hlt) (va_cwS 1 hts gX6_pairTime_X6_needLetter rfl rfl rfl hd_X6_needLetter ⟨Nat.le_of_ble_eq_true rfl, Nat.le_of_ble_eq_true rfl⟩) hE hS hA hP hH0 hout hlocks rfl hl.1 rfl (Nat.le_of_ble_eq_true rfl) dX6_pairTime_5 ⟨(Nat.le_of_ble_eq_true rfl), (Nat.le_of_ble_eq_true rfl)⟩ (fun E h => Or.inr (⟨c_1, h.1, h.2⟩)) (Nat.le_of_ble_eq_true rfl) (Nat.le_of_ble_eq_true rfl) (fun c_2 => ?_)
  refine W.widen (k := 2) (n := 12) (Nat.le_refl _) (Nat.le_refl _) ?_
  refine lv_aload_n hx hb dX6_pairTime_8 rfl (lv_at hl 0 rfl) ?_
  refine va_get (D := D) (ci := 6) (v := .ref xg) (C := RX6) (T := TX6) (N := 8) hx hb hts in_X6_pairTime_X6 hown hK hP 0 rfl rfl 1 (by decide) (hts (.fieldLink RX6 19 "TypingCoach" "figures" "LTypingCoach$Figures;") (List.mem_of_getElem? (i := 1) rfl)) (fun _ h9 => h9) rfl dX6_pairTime_9 ?_
  refine lv_iload_n hx hb dX6_pairTime_12 rfl (lv_at hl 1 rfl) ?_
  refine lv_iload_n hx hb dX6_pairTime_13 rfl (lv_at hl 2 rfl) ?_
  refine rdV (As := [.int i, .int j]) (rest := []) ⟨hx, hb, hml, hown, hts⟩ (c_X2_timeOfPair l D z q xg g1 y1 g2 y2 g3 y3 g4 y4 ct ti sh pr wt wh i j) (cwV 2 hts gX6_pairTime_X2_timeOfPair rfl rfl rfl hd_X2_timeOfPair ⟨Nat.le_of_ble_eq_true rfl, Nat.le_of_ble_eq_true rfl⟩) hE hS hA hP [1, 2, 3, 4, 5, 6, 7, 8, 9] rfl rfl rfl rfl rfl hl.1 rfl (Nat.le_of_ble_eq_true rfl) dX6_pairTime_14 ⟨(Nat.le_of_ble_eq_true rfl), (Nat.le_of_ble_eq_true rfl)⟩ ?_
  exact tx_i hx hb hr hlocks hP hD hS dX6_pairTime_17 (⟨c_1, c_2⟩) (rfl) (rfl) (Nat.le_of_ble_eq_true rfl) (Nat.le_of_ble_eq_true rfl)
set_option maxRecDepth 20000 in
set_option maxRecDepth 20000 in
theorem in_X6_wish_X6 : ∀ w ∈ wsX60, w ∈ wsX6_wish := mem_r _ [8, 9, 10, 11, 12, 13, 14, 15] (by decide +kernel)
set_option maxRecDepth 20000 in
theorem in_X6_wish_X2 : ∀ w ∈ wsX20, w ∈ wsX6_wish := mem_r _ [16, 17, 18, 19, 20, 21] (by decide +kernel)
theorem hd_X6_wish : yX6_wish.cls = RX6 ∧ yX6_wish.cls ≠ "java/lang/invoke/MethodHandle" ∧ yX6_wish.cls ≠ "java/lang/invoke/VarHandle" ∧ (parseMethodDescriptor yX6_wish.desc).map (fun d => d.parameters.length) = some 2 := by decide +kernel
set_option maxHeartbeats 4000000 in
set_option maxRecDepth 100000 in
theorem c_X6_wish (l : Launch) (D : va_G) (z : Nat → ClassId) (q : Nat → Nat) (xo : Nat) (xb : Nat) (xg : Nat) (xn : Nat) (xt : Nat) (xp : Nat) (xk : Nat) (xf : Nat) (dy : Int32) (g1 : Nat) (y1 : Nat) (g2 : Nat) (y2 : Nat) (g3 : Nat) (y3 : Nat) (g4 : Nat) (y4 : Nat) (ct : Nat → Int32) (ti : Nat → Int32) (sh : Nat → Int32) (pr : Nat → Int32) (wt : Int32) (wh : Int32) (mo : Int32) (sa : Int32) (sz : Nat) (hlt : l.stackTraces = false) : TX l yX6_wish wsX6_wish ({ frames := 6, cells := 3, slots := 18, locals := 120 } : Room) D z q [.ref xo, .int mo, .int sa] [(xo, .inr (6, [.ref xb, .ref xg, .ref xn, .ref xt, .ref xp, .ref xk, .ref xf, .int dy])), (xg, .inr (2, [.ref g1, .ref g2, .ref g3, .ref g4, .int wt, .int wh])), (g1, .inr (1, [.ref y1])), (y1, .inl (z 0, 26, .inl ct)), (g2, .inr (1, [.ref y2])), (y2, .inl (z 0, 26, .inl ti)), (g3, .inr (1, [.ref y3])), (y3, .inl (z 0, 26, .inl sh)), (g4, .inr (1, [.ref y4])), (y4, .inl (z 0, 676, .inl pr))] sz [(xo, .inr (6, [.ref xb, .ref xg, .ref xn, .ref xt, .ref xp, .ref xk, .ref xf, .int dy])), (xg, .inr (2, [.ref g1, .ref g2, .ref g3, .ref g4, .int mo, .int sa])), (g1, .inr (1, [.ref y1])), (y1, .inl (z 0, 26, .inl ct)), (g2, .inr (1, [.ref y2])), (y2, .inl (z 0, 26, .inl ti)), (g3, .inr (1, [.ref y3])), (y3, .inl (z 0, 26, .inl sh)), (g4, .inr (1, [.ref y4])), (y4, .inl (z 0, 676, .inl pr))] none (¬ bW mo 1 5000 = 0 ∧ ¬ bW sa 0 10000 = 0) (fun E => (bW mo 1 5000 = 0 ∧ E = xA) ∨ (¬ bW mo 1 5000 = 0 ∧ bW sa 0 10000 = 0 ∧ E = xA)) := by
  refine TX_mk (Qc := fun A a st o t => (¬ bW mo 1 5000 = 0 ∧ ¬ bW sa 0 10000 = 0) ∧ QW D [(xo, .inr (6, [.ref xb, .ref xg, .ref xn, .ref xt, .ref xp, .ref xk, .ref xf, .int dy])), (xg, .inr (2, [.ref g1, .ref g2, .ref g3, .ref g4, .int mo, .int sa])), (g1, .inr (1, [.ref y1])), (y1, .inl (z 0, 26, .inl ct)), (g2, .inr (1, [.ref y2])), (y2, .inl (z 0, 26, .inl ti)), (g3, .inr (1, [.ref y3])), (y3, .inl (z 0, 26, .inl sh)), (g4, .inr (1, [.ref y4])), (y4, .inl (z 0, 676, .inl pr))] A none a st o t) (XC := XK (fun E => (bW mo 1 5000 = 0 ∧ E = xA) ∨ (¬ bW mo 1 5000 = 0 ∧ bW sa 0 10000 = 0 ∧ E = xA))) (mc := 3) (ms := 18) (cc := cX6_wish) (maxL := 3) (ret := none) (by decide) rfl (Nat.le_of_ble_eq_true rfl) ?_
  intro p e s m below meth c A hx hb hr hml hts hown hlocks hout H hH0 hP hD hE hS hA ls hl
  have hK := hE.1
  have hown : s.vm.findClass RX6 = some m.cls := hown
  have hl : lv_has ls 3 [(0, .ref xo), (1, .int mo), (2, .int sa)] := hl
  refine lv_iload_n hx hb dX6_wish_0 rfl (lv_at hl 1 rfl) ?_
  refine lv_iconst (v := 1) hx hb dX6_wish_1 (by decide) ?_
  refine lv_sipush (v := 5000) hx hb dX6_wish_2 (by decide) ?_
  refine rdS (As := [.int mo, .int 1, .int 5000]) (rest := []) ⟨hx, hb, hml, hown, hts⟩ (c_X6_isWithin l D z q mo 1 5000) (va_cwS 3 hts gX6_wish_X6_isWithin rfl rfl rfl hd_X6_isWithin ⟨Nat.le_of_ble_eq_true rfl, Nat.le_of_ble_eq_true rfl⟩) hE hS hA hP [] rfl rfl hl.1 rfl (Nat.le_of_ble_eq_true rfl) dX6_wish_5 ⟨(Nat.le_of_ble_eq_true rfl), (Nat.le_of_ble_eq_true rfl)⟩ ?_
  refine lv_if_eq (tgt := 22) hx hb dX6_wish_8 (by decide) (fun c_1 => ?_) (fun c_1 => ?_)
  · exact thr (is := 191) (text := "wish out of range") (cls := xA) hx hb hlt hown fitA xAm (hts (.classLink RX6 107 "java/lang/IllegalArgumentException") (List.mem_of_getElem? (i := 1) rfl)) (hts (.initialized "java/lang/IllegalArgumentException") (List.mem_of_getElem? (i := 2) rfl)) (List.mem_of_getElem? (i := 7) rfl) ng111 (fun w h => hts w (List.mem_cons_of_mem _ (List.mem_append_right _ h))) gd111 hE hS hH0 hml hl.1 dX6_wish_22 dX6_wish_25 dX6_wish_26 dX6_wish_28 dX6_wish_31 hout hlocks (Nat.le_of_ble_eq_true rfl) (Nat.le_of_ble_eq_true rfl) ⟨(Nat.le_of_ble_eq_true rfl), (Nat.le_of_ble_eq_true rfl)⟩ (Or.inl ⟨c_1, rfl⟩) (Nat.le_of_ble_eq_true rfl) (Nat.le_of_ble_eq_true rfl)
  · refine lv_iload_n hx hb dX6_wish_11 rfl (lv_at hl 2 rfl) ?_
    refine lv_iconst (v := 0) hx hb dX6_wish_12 (by decide) ?_
    refine lv_sipush (v := 10000) hx hb dX6_wish_13 (by decide) ?_
    refine rdS (As := [.int sa, .int 0, .int 10000]) (rest := []) ⟨hx, hb, hml, hown, hts⟩ (c_X6_isWithin l D z q sa 0 10000) (va_cwS 3 hts gX6_wish_X6_isWithin rfl rfl rfl hd_X6_isWithin ⟨Nat.le_of_ble_eq_true rfl, Nat.le_of_ble_eq_true rfl⟩) hE hS hA hP [] rfl rfl hl.1 rfl (Nat.le_of_ble_eq_true rfl) dX6_wish_16 ⟨(Nat.le_of_ble_eq_true rfl), (Nat.le_of_ble_eq_true rfl)⟩ ?_
    refine lv_if_ne (tgt := 32) hx hb dX6_wish_19 (by decide) (fun c_2 => ?_) (fun c_2 => ?_)
    · refine lv_aload_n hx hb dX6_wish_32 rfl (lv_at hl 0 rfl) ?_
      refine va_get (D := D) (ci := 6) (v := .ref xg) (C := RX6) (T := TX6) (N := 8) hx hb hts in_X6_wish_X6 hown hK hP 0 rfl rfl 1 (by decide) (hts (.fieldLink RX6 19 "TypingCoach" "figures" "LTypingCoach$Figures;") (List.mem_of_getElem? (i := 3) rfl)) (fun _ h9 => h9) rfl dX6_wish_33 ?_
      refine lv_iload_n hx hb dX6_wish_36 rfl (lv_at hl 1 rfl) ?_
      refine va_putN (D := D) (ci := 2) (v := .int mo) (ty := .int) (C := RX2) (T := TX2) (N := 6) hx hb hts in_X6_wish_X2 tyX2 tyX2_ok nmX2 hown hK hP hD hS 1 rfl rfl 4 (by decide) (va_Nw.use rfl (hE.2.1.1 (193, "TypingCoach$Figures", "wishedTime", "I") (List.mem_of_getElem? (i := 6) rfl))) (fun _ h9 => h9) rfl (by decide +kernel) rfl rfl (Nat.le_of_ble_eq_true rfl) dX6_wish_37 (fun H locs hP hD hS => ?_)
      have hP : va_P D vwCl [(xo, .inr (6, [.ref xb, .ref xg, .ref xn, .ref xt, .ref xp, .ref xk, .ref xf, .int dy])), (xg, .inr (2, [.ref g1, .ref g2, .ref g3, .ref g4, .int mo, .int wh])), (g1, .inr (1, [.ref y1])), (y1, .inl (z 0, 26, .inl ct)), (g2, .inr (1, [.ref y2])), (y2, .inl (z 0, 26, .inl ti)), (g3, .inr (1, [.ref y3])), (y3, .inl (z 0, 26, .inl sh)), (g4, .inr (1, [.ref y4])), (y4, .inl (z 0, 676, .inl pr))] H := hP
      have hD : va_D A [(xo, .inr (6, [.ref xb, .ref xg, .ref xn, .ref xt, .ref xp, .ref xk, .ref xf, .int dy])), (xg, .inr (2, [.ref g1, .ref g2, .ref g3, .ref g4, .int mo, .int wh])), (g1, .inr (1, [.ref y1])), (y1, .inl (z 0, 26, .inl ct)), (g2, .inr (1, [.ref y2])), (y2, .inl (z 0, 26, .inl ti)), (g3, .inr (1, [.ref y3])), (y3, .inl (z 0, 26, .inl sh)), (g4, .inr (1, [.ref y4])), (y4, .inl (z 0, 676, .inl pr))] := hD
      refine lv_aload_n hx hb dX6_wish_40 rfl (lv_at hl 0 rfl) ?_
      refine va_get (D := D) (ci := 6) (v := .ref xg) (C := RX6) (T := TX6) (N := 8) hx hb hts in_X6_wish_X6 hown hK hP 0 rfl rfl 1 (by decide) (hts (.fieldLink RX6 19 "TypingCoach" "figures" "LTypingCoach$Figures;") (List.mem_of_getElem? (i := 3) rfl)) (fun _ h9 => h9) rfl dX6_wish_41 ?_
      refine lv_iload_n hx hb dX6_wish_44 rfl (lv_at hl 2 rfl) ?_
      refine va_putN (D := D) (ci := 2) (v := .int sa) (ty := .int) (C := RX2) (T := TX2) (N := 6) hx hb hts in_X6_wish_X2 tyX2 tyX2_ok nmX2 hown hK hP hD hS 1 rfl rfl 5 (by decide) (va_Nw.use rfl (hE.2.1.1 (196, "TypingCoach$Figures", "wishedShare", "I") (List.mem_of_getElem? (i := 7) rfl))) (fun _ h9 => h9) rfl (by decide +kernel) rfl rfl (Nat.le_of_ble_eq_true rfl) dX6_wish_45 (fun H locs hP hD hS => ?_)
      have hP : va_P D vwCl [(xo, .inr (6, [.ref xb, .ref xg, .ref xn, .ref xt, .ref xp, .ref xk, .ref xf, .int dy])), (xg, .inr (2, [.ref g1, .ref g2, .ref g3, .ref g4, .int mo, .int sa])), (g1, .inr (1, [.ref y1])), (y1, .inl (z 0, 26, .inl ct)), (g2, .inr (1, [.ref y2])), (y2, .inl (z 0, 26, .inl ti)), (g3, .inr (1, [.ref y3])), (y3, .inl (z 0, 26, .inl sh)), (g4, .inr (1, [.ref y4])), (y4, .inl (z 0, 676, .inl pr))] H := hP
      have hD : va_D A [(xo, .inr (6, [.ref xb, .ref xg, .ref xn, .ref xt, .ref xp, .ref xk, .ref xf, .int dy])), (xg, .inr (2, [.ref g1, .ref g2, .ref g3, .ref g4, .int mo, .int sa])), (g1, .inr (1, [.ref y1])), (y1, .inl (z 0, 26, .inl ct)), (g2, .inr (1, [.ref y2])), (y2, .inl (z 0, 26, .inl ti)), (g3, .inr (1, [.ref y3])), (y3, .inl (z 0, 26, .inl sh)), (g4, .inr (1, [.ref y4])), (y4, .inl (z 0, 676, .inl pr))] := hD
      exact tx_v hx hb hr hlocks hP hD hS dX6_wish_48 (⟨c_1, c_2⟩) (rfl) (Nat.le_of_ble_eq_true rfl) (Nat.le_of_ble_eq_true rfl)
    · exact thr (is := 191) (text := "wish out of range") (cls := xA) hx hb hlt hown fitA xAm (hts (.classLink RX6 107 "java/lang/IllegalArgumentException") (List.mem_of_getElem? (i := 1) rfl)) (hts (.initialized "java/lang/IllegalArgumentException") (List.mem_of_getElem? (i := 2) rfl)) (List.mem_of_getElem? (i := 7) rfl) ng111 (fun w h => hts w (List.mem_cons_of_mem _ (List.mem_append_right _ h))) gd111 hE hS hH0 hml hl.1 dX6_wish_22 dX6_wish_25 dX6_wish_26 dX6_wish_28 dX6_wish_31 hout hlocks (Nat.le_of_ble_eq_true rfl) (Nat.le_of_ble_eq_true rfl) ⟨(Nat.le_of_ble_eq_true rfl), (Nat.le_of_ble_eq_true rfl)⟩ (Or.inr (⟨c_1, c_2, rfl⟩)) (Nat.le_of_ble_eq_true rfl) (Nat.le_of_ble_eq_true rfl)
set_option maxRecDepth 20000 in
theorem in_X6_endDay_X6 : ∀ w ∈ wsX60, w ∈ wsX6_endDay := mem_r _ [19, 20, 21, 22, 23, 24, 25, 26] (by decide +kernel)
theorem hd_X6_endDay : yX6_endDay.cls = RX6 ∧ yX6_endDay.cls ≠ "java/lang/invoke/MethodHandle" ∧ yX6_endDay.cls ≠ "java/lang/invoke/VarHandle" ∧ (parseMethodDescriptor yX6_endDay.desc).map (fun d => d.parameters.length) = some 0 := by decide +kernel
set_option maxHeartbeats 4000000 in
set_option maxRecDepth 100000 in
theorem c_X6_endDay (l : Launch) (D : va_G) (z : Nat → ClassId) (q : Nat → Nat) (xo : Nat) (xb : Nat) (xg : Nat) (xn : Nat) (xt : Nat) (xp : Nat) (xk : Nat) (xf : Nat) (dy : Int32) (g1 : Nat) (y1 : Nat) (g2 : Nat) (y2 : Nat) (g3 : Nat) (y3 : Nat) (g4 : Nat) (y4 : Nat) (ct : Nat → Int32) (ti : Nat → Int32) (sh : Nat → Int32) (pr : Nat → Int32) (wt : Int32) (wh : Int32) (sz : Nat)  : WR l yX6_endDay wsX6_endDay ({ frames := 2, cells := 0, slots := 0, locals := 43 } : Room) D z q [.ref xo] [(xo, .inr (6, [.ref xb, .ref xg, .ref xn, .ref xt, .ref xp, .ref xk, .ref xf, .int dy])), (xg, .inr (2, [.ref g1, .ref g2, .ref g3, .ref g4, .int wt, .int wh])), (g1, .inr (1, [.ref y1])), (y1, .inl (z 0, 26, .inl ct)), (g2, .inr (1, [.ref y2])), (y2, .inl (z 0, 26, .inl ti)), (g3, .inr (1, [.ref y3])), (y3, .inl (z 0, 26, .inl sh)), (g4, .inr (1, [.ref y4])), (y4, .inl (z 0, 676, .inl pr))] sz [(xo, .inr (6, [.ref xb, .ref xg, .ref xn, .ref xt, .ref xp, .ref xk, .ref xf, .int 0])), (xg, .inr (2, [.ref g1, .ref g2, .ref g3, .ref g4, .int wt, .int wh])), (g1, .inr (1, [.ref y1])), (y1, .inl (z 0, 26, .inl (fHalf ct 26))), (g2, .inr (1, [.ref y2])), (y2, .inl (z 0, 26, .inl ti)), (g3, .inr (1, [.ref y3])), (y3, .inl (z 0, 26, .inl sh)), (g4, .inr (1, [.ref y4])), (y4, .inl (z 0, 676, .inl pr))] (some (.int dy)) := by
  refine WR_mk (Qc := fun A => QW D [(xo, .inr (6, [.ref xb, .ref xg, .ref xn, .ref xt, .ref xp, .ref xk, .ref xf, .int 0])), (xg, .inr (2, [.ref g1, .ref g2, .ref g3, .ref g4, .int wt, .int wh])), (g1, .inr (1, [.ref y1])), (y1, .inl (z 0, 26, .inl (fHalf ct 26))), (g2, .inr (1, [.ref y2])), (y2, .inl (z 0, 26, .inl ti)), (g3, .inr (1, [.ref y3])), (y3, .inl (z 0, 26, .inl sh)), (g4, .inr (1, [.ref y4])), (y4, .inl (z 0, 676, .inl pr))] A (some (.int dy))) (cc := cX6_endDay) (maxL := 2) (ret := (some .int)) (by decide) rfl (Nat.le_of_ble_eq_true rfl) ?_
  intro p e s m below meth c A hx hb hr hml hts hown hlocks hin0 H hP hD hE hS hA ls hl
  have hK := hE.1
  have hown : s.vm.findClass RX6 = some m.cls := hown
  have hl : lv_has ls 2 [(0, .ref xo)] := hl
  refine lv_aload_n hx hb dX6_endDay_0 rfl (lv_at hl 0 rfl) ?_
  refine va_get (D := D) (ci := 6) (v := .int dy) (C := RX6) (T := TX6) (N := 8) hx hb hts in_X6_endDay_X6 hown hK hP 0 rfl rfl 7 (by decide) (hts (.fieldLink RX6 58 "TypingCoach" "strokesOfDay" "I") (List.mem_of_getElem? (i := 1) rfl)) (fun _ h9 => h9) rfl dX6_endDay_1 ?_
  refine lv_istore_n (lv' := [(1, .int dy), (0, .ref xo)]) hx hb dX6_endDay_4 rfl hl (by decide) rfl (fun ls hl => ?_)
  refine lv_aload_n hx hb dX6_endDay_5 rfl (lv_at hl 1 rfl) ?_
  refine va_get (D := D) (ci := 6) (v := .ref xg) (C := RX6) (T := TX6) (N := 8) hx hb hts in_X6_endDay_X6 hown hK hP 0 rfl rfl 1 (by decide) (hts (.fieldLink RX6 19 "TypingCoach" "figures" "LTypingCoach$Figures;") (List.mem_of_getElem? (i := 2) rfl)) (fun _ h9 => h9) rfl dX6_endDay_6 ?_
  refine wrVv (As := []) (rest := []) ⟨hx, hb, hml, hown, hts⟩ (c_X2_halveCounts l D z q xg g1 y1 g2 y2 g3 y3 g4 y4 ct ti sh pr wt wh H.size) (cwV 0 hts gX6_endDay_X2_halveCounts rfl rfl rfl hd_X2_halveCounts ⟨Nat.le_of_ble_eq_true rfl, Nat.le_of_ble_eq_true rfl⟩) hE hS hA hP hD [1, 2, 3, 4, 5, 6, 7, 8, 9] rfl rfl rfl rfl rfl rfl rfl hl.1 rfl (Nat.le_of_ble_eq_true rfl) dX6_endDay_9 ⟨(Nat.le_of_ble_eq_true rfl), (Nat.le_of_ble_eq_true rfl)⟩ (fun H locs hP hD hS => ?_)
  have hP : va_P D vwCl [(xo, .inr (6, [.ref xb, .ref xg, .ref xn, .ref xt, .ref xp, .ref xk, .ref xf, .int dy])), (xg, .inr (2, [.ref g1, .ref g2, .ref g3, .ref g4, .int wt, .int wh])), (g1, .inr (1, [.ref y1])), (y1, .inl (z 0, 26, .inl (fHalf ct 26))), (g2, .inr (1, [.ref y2])), (y2, .inl (z 0, 26, .inl ti)), (g3, .inr (1, [.ref y3])), (y3, .inl (z 0, 26, .inl sh)), (g4, .inr (1, [.ref y4])), (y4, .inl (z 0, 676, .inl pr))] H := hP
  have hD : va_D A [(xo, .inr (6, [.ref xb, .ref xg, .ref xn, .ref xt, .ref xp, .ref xk, .ref xf, .int dy])), (xg, .inr (2, [.ref g1, .ref g2, .ref g3, .ref g4, .int wt, .int wh])), (g1, .inr (1, [.ref y1])), (y1, .inl (z 0, 26, .inl (fHalf ct 26))), (g2, .inr (1, [.ref y2])), (y2, .inl (z 0, 26, .inl ti)), (g3, .inr (1, [.ref y3])), (y3, .inl (z 0, 26, .inl sh)), (g4, .inr (1, [.ref y4])), (y4, .inl (z 0, 676, .inl pr))] := hD
  refine lv_aload_n hx hb dX6_endDay_12 rfl (lv_at hl 1 rfl) ?_
  refine lv_iconst (v := 0) hx hb dX6_endDay_13 (by decide) ?_
  refine va_put (D := D) (ci := 6) (v := .int 0) (ty := .int) (C := RX6) (T := TX6) (N := 8) hx hb hts in_X6_endDay_X6 tyX6 tyX6_ok nmX6 hown hK hP hD hS 0 rfl rfl 7 (by decide) (hts (.fieldLink RX6 58 "TypingCoach" "strokesOfDay" "I") (List.mem_of_getElem? (i := 1) rfl)) (fun _ h9 => h9) rfl (by decide +kernel) rfl rfl (Nat.le_of_ble_eq_true rfl) dX6_endDay_14 (fun H locs hP hD hS => ?_)
  have hP : va_P D vwCl [(xo, .inr (6, [.ref xb, .ref xg, .ref xn, .ref xt, .ref xp, .ref xk, .ref xf, .int 0])), (xg, .inr (2, [.ref g1, .ref g2, .ref g3, .ref g4, .int wt, .int wh])), (g1, .inr (1, [.ref y1])), (y1, .inl (z 0, 26, .inl (fHalf ct 26))), (g2, .inr (1, [.ref y2])), (y2, .inl (z 0, 26, .inl ti)), (g3, .inr (1, [.ref y3])), (y3, .inl (z 0, 26, .inl sh)), (g4, .inr (1, [.ref y4])), (y4, .inl (z 0, 676, .inl pr))] H := hP
  have hD : va_D A [(xo, .inr (6, [.ref xb, .ref xg, .ref xn, .ref xt, .ref xp, .ref xk, .ref xf, .int 0])), (xg, .inr (2, [.ref g1, .ref g2, .ref g3, .ref g4, .int wt, .int wh])), (g1, .inr (1, [.ref y1])), (y1, .inl (z 0, 26, .inl (fHalf ct 26))), (g2, .inr (1, [.ref y2])), (y2, .inl (z 0, 26, .inl ti)), (g3, .inr (1, [.ref y3])), (y3, .inl (z 0, 26, .inl sh)), (g4, .inr (1, [.ref y4])), (y4, .inl (z 0, 676, .inl pr))] := hD
  refine lv_iload_n hx hb dX6_endDay_17 rfl (lv_at hl 0 rfl) ?_
  exact wr_i hx hb hr hlocks hP hD hS dX6_endDay_18 (rfl) (rfl) (Nat.le_refl _) (Nat.le_refl _)
set_option maxRecDepth 20000 in
theorem in_X6_strokes_X6 : ∀ w ∈ wsX60, w ∈ wsX6_strokes := mem_r _ [2, 3, 4, 5, 6, 7, 8, 9] (by decide +kernel)
theorem hd_X6_strokes : yX6_strokes.cls = RX6 ∧ yX6_strokes.cls ≠ "java/lang/invoke/MethodHandle" ∧ yX6_strokes.cls ≠ "java/lang/invoke/VarHandle" ∧ (parseMethodDescriptor yX6_strokes.desc).map (fun d => d.parameters.length) = some 0 := by decide +kernel
set_option maxHeartbeats 4000000 in
set_option maxRecDepth 100000 in
theorem c_X6_strokes (l : Launch) (D : va_G) (z : Nat → ClassId) (q : Nat → Nat) (xo : Nat) (xb : Nat) (xg : Nat) (xn : Nat) (xt : Nat) (xp : Nat) (xk : Nat) (xf : Nat) (dy : Int32)  : RD l yX6_strokes wsX6_strokes ({ frames := 0, cells := 0, slots := 0, locals := 0 } : Room) D z q [.ref xo] [(xo, .inr (6, [.ref xb, .ref xg, .ref xn, .ref xt, .ref xp, .ref xk, .ref xf, .int dy]))] (some (.int dy)) := by
  refine RD_mk (cc := cX6_strokes) (maxL := 1) (ret := (some .int)) (by decide) rfl (Nat.le_of_ble_eq_true rfl) ?_
  intro p e s m below meth c hx hb hr hml hts hown hlocks hP hE hS hA ls hl
  have hK := hE.1
  have hown : s.vm.findClass RX6 = some m.cls := hown
  have hl : lv_has ls 1 [(0, .ref xo)] := hl
  refine lv_aload_n hx hb dX6_strokes_0 rfl (lv_at hl 0 rfl) ?_
  refine va_get (D := D) (ci := 6) (v := .int dy) (C := RX6) (T := TX6) (N := 8) hx hb hts in_X6_strokes_X6 hown hK hP 0 rfl rfl 7 (by decide) (hts (.fieldLink RX6 58 "TypingCoach" "strokesOfDay" "I") (List.mem_of_getElem? (i := 1) rfl)) (fun _ h9 => h9) rfl dX6_strokes_1 ?_
  exact rd_i hx hb hr hlocks dX6_strokes_4 (rfl)
set_option maxRecDepth 20000 in
theorem in_X6_errors_X6 : ∀ w ∈ wsX60, w ∈ wsX6_errors := mem_r _ [14, 15, 16, 17, 18, 19, 20, 21] (by decide +kernel)
theorem hd_X6_errors : yX6_errors.cls = RX6 ∧ yX6_errors.cls ≠ "java/lang/invoke/MethodHandle" ∧ yX6_errors.cls ≠ "java/lang/invoke/VarHandle" ∧ (parseMethodDescriptor yX6_errors.desc).map (fun d => d.parameters.length) = some 1 := by decide +kernel
set_option maxHeartbeats 4000000 in
set_option maxRecDepth 100000 in
theorem c_X6_errors (l : Launch) (D : va_G) (z : Nat → ClassId) (q : Nat → Nat) (xo : Nat) (xb : Nat) (xg : Nat) (xn : Nat) (xt : Nat) (xp : Nat) (xk : Nat) (xf : Nat) (dy : Int32) (ka : Nat) (ek : Nat → Int32) (i : Int32) (sz : Nat) (hlt : l.stackTraces = false) : TX l yX6_errors wsX6_errors ({ frames := 6, cells := 3, slots := 18, locals := 120 } : Room) D z q [.ref xo, .int i] [(xo, .inr (6, [.ref xb, .ref xg, .ref xn, .ref xt, .ref xp, .ref xk, .ref xf, .int dy])), (xk, .inr (1, [.ref ka])), (ka, .inl (z 0, 5, .inl ek))] sz [(xo, .inr (6, [.ref xb, .ref xg, .ref xn, .ref xt, .ref xp, .ref xk, .ref xf, .int dy])), (xk, .inr (1, [.ref ka])), (ka, .inl (z 0, 5, .inl ek))] (some (.int (cAt 5 ek i))) (¬ bW i 0 4 = 0) (fun E => (bW i 0 4 = 0 ∧ E = xA)) := by
  refine TX_mk (Qc := fun A a st o t => (¬ bW i 0 4 = 0) ∧ QW D [(xo, .inr (6, [.ref xb, .ref xg, .ref xn, .ref xt, .ref xp, .ref xk, .ref xf, .int dy])), (xk, .inr (1, [.ref ka])), (ka, .inl (z 0, 5, .inl ek))] A (some (.int (cAt 5 ek i))) a st o t) (XC := XK (fun E => (bW i 0 4 = 0 ∧ E = xA))) (mc := 3) (ms := 18) (cc := cX6_errors) (maxL := 2) (ret := (some .int)) (by decide) rfl (Nat.le_of_ble_eq_true rfl) ?_
  intro p e s m below meth c A hx hb hr hml hts hown hlocks hout H hH0 hP hD hE hS hA ls hl
  have hK := hE.1
  have hown : s.vm.findClass RX6 = some m.cls := hown
  have hl : lv_has ls 2 [(0, .ref xo), (1, .int i)] := hl
  refine lv_iload_n hx hb dX6_errors_0 rfl (lv_at hl 1 rfl) ?_
  refine lv_iconst (v := 0) hx hb dX6_errors_1 (by decide) ?_
  refine lv_iconst (v := 4) hx hb dX6_errors_2 (by decide) ?_
  refine rdS (As := [.int i, .int 0, .int 4]) (rest := []) ⟨hx, hb, hml, hown, hts⟩ (c_X6_isWithin l D z q i 0 4) (va_cwS 3 hts gX6_errors_X6_isWithin rfl rfl rfl hd_X6_isWithin ⟨Nat.le_of_ble_eq_true rfl, Nat.le_of_ble_eq_true rfl⟩) hE hS hA hP [] rfl rfl hl.1 rfl (Nat.le_of_ble_eq_true rfl) dX6_errors_3 ⟨(Nat.le_of_ble_eq_true rfl), (Nat.le_of_ble_eq_true rfl)⟩ ?_
  refine lv_if_ne (tgt := 19) hx hb dX6_errors_6 (by decide) (fun c_1 => ?_) (fun c_1 => ?_)
  · refine lv_aload_n hx hb dX6_errors_19 rfl (lv_at hl 0 rfl) ?_
    refine va_get (D := D) (ci := 6) (v := .ref xk) (C := RX6) (T := TX6) (N := 8) hx hb hts in_X6_errors_X6 hown hK hP 0 rfl rfl 5 (by decide) (hts (.fieldLink RX6 51 "TypingCoach" "errorsOfKinds" "LTypingCoach$Cells;") (List.mem_of_getElem? (i := 3) rfl)) (fun _ h9 => h9) rfl dX6_errors_20 ?_
    refine lv_iload_n hx hb dX6_errors_23 rfl (lv_at hl 1 rfl) ?_
    refine rdV (As := [.int i]) (rest := []) ⟨hx, hb, hml, hown, hts⟩ (c_X1_at l D z q xk ka 5 ek i (Nat.le_of_ble_eq_true rfl)) (cwV 1 hts gX6_errors_X1_at rfl rfl rfl hd_X1_at ⟨Nat.le_of_ble_eq_true rfl, Nat.le_of_ble_eq_true rfl⟩) hE hS hA hP [1, 2] rfl rfl rfl rfl rfl hl.1 rfl (Nat.le_of_ble_eq_true rfl) dX6_errors_24 ⟨(Nat.le_of_ble_eq_true rfl), (Nat.le_of_ble_eq_true rfl)⟩ ?_
    exact tx_i hx hb hr hlocks hP hD hS dX6_errors_27 (c_1) (rfl) (rfl) (Nat.le_of_ble_eq_true rfl) (Nat.le_of_ble_eq_true rfl)
  · exact thr (is := 187) (text := "no such kind") (cls := xA) hx hb hlt hown fitA xAm (hts (.classLink RX6 107 "java/lang/IllegalArgumentException") (List.mem_of_getElem? (i := 1) rfl)) (hts (.initialized "java/lang/IllegalArgumentException") (List.mem_of_getElem? (i := 2) rfl)) (List.mem_of_getElem? (i := 5) rfl) ng111 (fun w h => hts w (List.mem_cons_of_mem _ (List.mem_append_right _ h))) gd111 hE hS hH0 hml hl.1 dX6_errors_9 dX6_errors_12 dX6_errors_13 dX6_errors_15 dX6_errors_18 hout hlocks (Nat.le_of_ble_eq_true rfl) (Nat.le_of_ble_eq_true rfl) ⟨(Nat.le_of_ble_eq_true rfl), (Nat.le_of_ble_eq_true rfl)⟩ (⟨c_1, rfl⟩) (Nat.le_of_ble_eq_true rfl) (Nat.le_of_ble_eq_true rfl)
set_option maxRecDepth 20000 in
theorem in_X6_errorsOf_X6 : ∀ w ∈ wsX60, w ∈ wsX6_errorsOf := mem_r _ [14, 15, 16, 17, 18, 19, 20, 21] (by decide +kernel)
theorem hd_X6_errorsOf : yX6_errorsOf.cls = RX6 ∧ yX6_errorsOf.cls ≠ "java/lang/invoke/MethodHandle" ∧ yX6_errorsOf.cls ≠ "java/lang/invoke/VarHandle" ∧ (parseMethodDescriptor yX6_errorsOf.desc).map (fun d => d.parameters.length) = some 1 := by decide +kernel
set_option maxHeartbeats 4000000 in
set_option maxRecDepth 100000 in
theorem c_X6_errorsOf (l : Launch) (D : va_G) (z : Nat → ClassId) (q : Nat → Nat) (xo : Nat) (xb : Nat) (xg : Nat) (xn : Nat) (xt : Nat) (xp : Nat) (xk : Nat) (xf : Nat) (dy : Int32) (fa : Nat) (ef : Nat → Int32) (i : Int32) (sz : Nat) (hlt : l.stackTraces = false) : TX l yX6_errorsOf wsX6_errorsOf ({ frames := 6, cells := 3, slots := 18, locals := 120 } : Room) D z q [.ref xo, .int i] [(xo, .inr (6, [.ref xb, .ref xg, .ref xn, .ref xt, .ref xp, .ref xk, .ref xf, .int dy])), (xf, .inr (1, [.ref fa])), (fa, .inl (z 0, 8, .inl ef))] sz [(xo, .inr (6, [.ref xb, .ref xg, .ref xn, .ref xt, .ref xp, .ref xk, .ref xf, .int dy])), (xf, .inr (1, [.ref fa])), (fa, .inl (z 0, 8, .inl ef))] (some (.int (cAt 8 ef i))) (¬ bW i 0 7 = 0) (fun E => (bW i 0 7 = 0 ∧ E = xA)) := by
  refine TX_mk (Qc := fun A a st o t => (¬ bW i 0 7 = 0) ∧ QW D [(xo, .inr (6, [.ref xb, .ref xg, .ref xn, .ref xt, .ref xp, .ref xk, .ref xf, .int dy])), (xf, .inr (1, [.ref fa])), (fa, .inl (z 0, 8, .inl ef))] A (some (.int (cAt 8 ef i))) a st o t) (XC := XK (fun E => (bW i 0 7 = 0 ∧ E = xA))) (mc := 3) (ms := 18) (cc := cX6_errorsOf) (maxL := 2) (ret := (some .int)) (by decide) rfl (Nat.le_of_ble_eq_true rfl) ?_
  intro p e s m below meth c A hx hb hr hml hts hown hlocks hout H hH0 hP hD hE hS hA ls hl
  have hK := hE.1
  have hown : s.vm.findClass RX6 = some m.cls := hown
  have hl : lv_has ls 2 [(0, .ref xo), (1, .int i)] := hl
  refine lv_iload_n hx hb dX6_errorsOf_0 rfl (lv_at hl 1 rfl) ?_
  refine lv_iconst (v := 0) hx hb dX6_errorsOf_1 (by decide) ?_
  refine lv_bipush (v := 7) hx hb dX6_errorsOf_2 (by decide) ?_
  refine rdS (As := [.int i, .int 0, .int 7]) (rest := []) ⟨hx, hb, hml, hown, hts⟩ (c_X6_isWithin l D z q i 0 7) (va_cwS 3 hts gX6_errorsOf_X6_isWithin rfl rfl rfl hd_X6_isWithin ⟨Nat.le_of_ble_eq_true rfl, Nat.le_of_ble_eq_true rfl⟩) hE hS hA hP [] rfl rfl hl.1 rfl (Nat.le_of_ble_eq_true rfl) dX6_errorsOf_4 ⟨(Nat.le_of_ble_eq_true rfl), (Nat.le_of_ble_eq_true rfl)⟩ ?_
  refine lv_if_ne (tgt := 20) hx hb dX6_errorsOf_7 (by decide) (fun c_1 => ?_) (fun c_1 => ?_)
  · refine lv_aload_n hx hb dX6_errorsOf_20 rfl (lv_at hl 0 rfl) ?_
    refine va_get (D := D) (ci := 6) (v := .ref xf) (C := RX6) (T := TX6) (N := 8) hx hb hts in_X6_errorsOf_X6 hown hK hP 0 rfl rfl 6 (by decide) (hts (.fieldLink RX6 55 "TypingCoach" "errorsOfFingers" "LTypingCoach$Cells;") (List.mem_of_getElem? (i := 3) rfl)) (fun _ h9 => h9) rfl dX6_errorsOf_21 ?_
    refine lv_iload_n hx hb dX6_errorsOf_24 rfl (lv_at hl 1 rfl) ?_
    refine rdV (As := [.int i]) (rest := []) ⟨hx, hb, hml, hown, hts⟩ (c_X1_at l D z q xf fa 8 ef i (Nat.le_of_ble_eq_true rfl)) (cwV 1 hts gX6_errorsOf_X1_at rfl rfl rfl hd_X1_at ⟨Nat.le_of_ble_eq_true rfl, Nat.le_of_ble_eq_true rfl⟩) hE hS hA hP [1, 2] rfl rfl rfl rfl rfl hl.1 rfl (Nat.le_of_ble_eq_true rfl) dX6_errorsOf_25 ⟨(Nat.le_of_ble_eq_true rfl), (Nat.le_of_ble_eq_true rfl)⟩ ?_
    exact tx_i hx hb hr hlocks hP hD hS dX6_errorsOf_28 (c_1) (rfl) (rfl) (Nat.le_of_ble_eq_true rfl) (Nat.le_of_ble_eq_true rfl)
  · exact thr (is := 189) (text := "finger out of range") (cls := xA) hx hb hlt hown fitA xAm (hts (.classLink RX6 107 "java/lang/IllegalArgumentException") (List.mem_of_getElem? (i := 1) rfl)) (hts (.initialized "java/lang/IllegalArgumentException") (List.mem_of_getElem? (i := 2) rfl)) (List.mem_of_getElem? (i := 6) rfl) ng111 (fun w h => hts w (List.mem_cons_of_mem _ (List.mem_append_right _ h))) gd111 hE hS hH0 hml hl.1 dX6_errorsOf_10 dX6_errorsOf_13 dX6_errorsOf_14 dX6_errorsOf_16 dX6_errorsOf_19 hout hlocks (Nat.le_of_ble_eq_true rfl) (Nat.le_of_ble_eq_true rfl) ⟨(Nat.le_of_ble_eq_true rfl), (Nat.le_of_ble_eq_true rfl)⟩ (⟨c_1, rfl⟩) (Nat.le_of_ble_eq_true rfl) (Nat.le_of_ble_eq_true rfl)
set_option maxRecDepth 20000 in
theorem in_X6_isIn_X6 : ∀ w ∈ wsX60, w ∈ wsX6_isIn := mem_r _ [17, 18, 19, 20, 21, 22, 23, 24] (by decide +kernel)
theorem hd_X6_isIn : yX6_isIn.cls = RX6 ∧ yX6_isIn.cls ≠ "java/lang/invoke/MethodHandle" ∧ yX6_isIn.cls ≠ "java/lang/invoke/VarHandle" ∧ (parseMethodDescriptor yX6_isIn.desc).map (fun d => d.parameters.length) = some 1 := by decide +kernel
set_option maxHeartbeats 4000000 in
set_option maxRecDepth 100000 in
theorem c_X6_isIn (l : Launch) (D : va_G) (z : Nat → ClassId) (q : Nat → Nat) (xo : Nat) (xb : Nat) (xg : Nat) (xn : Nat) (xt : Nat) (xp : Nat) (xk : Nat) (xf : Nat) (dy : Int32) (na : Nat) (ia : Nat → Int32) (i : Int32) (sz : Nat) (hlt : l.stackTraces = false) : TX l yX6_isIn wsX6_isIn ({ frames := 7, cells := 3, slots := 18, locals := 140 } : Room) D z q [.ref xo, .int i] [(xo, .inr (6, [.ref xb, .ref xg, .ref xn, .ref xt, .ref xp, .ref xk, .ref xf, .int dy])), (xn, .inr (4, [.ref na, .ref xg])), (na, .inl (z 1, 26, .inl ia))] sz [(xo, .inr (6, [.ref xb, .ref xg, .ref xn, .ref xt, .ref xp, .ref xk, .ref xf, .int dy])), (xn, .inr (4, [.ref na, .ref xg])), (na, .inl (z 1, 26, .inl ia))] (some (.int (lIn ia i))) (¬ bW i 0 25 = 0) (fun E => (bW i 0 25 = 0 ∧ E = xI)) := by
  refine TX_mk (Qc := fun A a st o t => (¬ bW i 0 25 = 0) ∧ QW D [(xo, .inr (6, [.ref xb, .ref xg, .ref xn, .ref xt, .ref xp, .ref xk, .ref xf, .int dy])), (xn, .inr (4, [.ref na, .ref xg])), (na, .inl (z 1, 26, .inl ia))] A (some (.int (lIn ia i))) a st o t) (XC := XK (fun E => (bW i 0 25 = 0 ∧ E = xI))) (mc := 3) (ms := 18) (cc := cX6_isIn) (maxL := 2) (ret := (some .boolean)) (by decide) rfl (Nat.le_of_ble_eq_true rfl) ?_
  intro p e s m below meth c A hx hb hr hml hts hown hlocks hout H hH0 hP hD hE hS hA ls hl
  have hK := hE.1
  have hown : s.vm.findClass RX6 = some m.cls := hown
  have hl : lv_has ls 2 [(0, .ref xo), (1, .int i)] := hl
  refine lv_iload_n hx hb dX6_isIn_0 rfl (lv_at hl 1 rfl) ?_
  refine tsS (As := [.int i]) (rest := []) (mc := 3) (ms := 18) ⟨hx, hb, hml, hown, hts⟩ (c_X6_needLetter l D z q i hlt) (va_cwS 1 hts gX6_isIn_X6_needLetter rfl rfl rfl hd_X6_needLetter ⟨Nat.le_of_ble_eq_true rfl, Nat.le_of_ble_eq_true rfl⟩) hE hS hA hP hH0 hout hlocks rfl hl.1 rfl (Nat.le_of_ble_eq_true rfl) dX6_isIn_1 ⟨(Nat.le_of_ble_eq_true rfl), (Nat.le_of_ble_eq_true rfl)⟩ (fun E h => ⟨h.1, h.2⟩) (Nat.le_of_ble_eq_true rfl) (Nat.le_of_ble_eq_true rfl) (fun c_1 => ?_)
  refine W.widen (k := 1) (n := 6) (Nat.le_refl _) (Nat.le_refl _) ?_
  refine lv_aload_n hx hb dX6_isIn_4 rfl (lv_at hl 0 rfl) ?_
  refine va_get (D := D) (ci := 6) (v := .ref xn) (C := RX6) (T := TX6) (N := 8) hx hb hts in_X6_isIn_X6 hown hK hP 0 rfl rfl 2 (by decide) (hts (.fieldLink RX6 28 "TypingCoach" "lettersIn" "LTypingCoach$LettersIn;") (List.mem_of_getElem? (i := 1) rfl)) (fun _ h9 => h9) rfl dX6_isIn_5 ?_
  refine lv_iload_n hx hb dX6_isIn_8 rfl (lv_at hl 1 rfl) ?_
  refine rdV (As := [.int i]) (rest := []) ⟨hx, hb, hml, hown, hts⟩ (c_X4_contains l D z q xn na xg ia i) (cwV 1 hts gX6_isIn_X4_contains rfl rfl rfl hd_X4_contains ⟨Nat.le_of_ble_eq_true rfl, Nat.le_of_ble_eq_true rfl⟩) hE hS hA hP [1, 2] rfl rfl rfl rfl rfl hl.1 rfl (Nat.le_of_ble_eq_true rfl) dX6_isIn_9 ⟨(Nat.le_of_ble_eq_true rfl), (Nat.le_of_ble_eq_true rfl)⟩ ?_
  exact tx_z hx hb hr hlocks (lIn_n _ _) hP hD hS dX6_isIn_12 (c_1) (rfl) (rfl) (Nat.le_of_ble_eq_true rfl) (Nat.le_of_ble_eq_true rfl)
set_option maxRecDepth 20000 in
theorem in_X6_weakest_X6 : ∀ w ∈ wsX60, w ∈ wsX6_weakest := mem_r _ [26, 27, 28, 29, 30, 31, 32, 33] (by decide +kernel)
theorem hd_X6_weakest : yX6_weakest.cls = RX6 ∧ yX6_weakest.cls ≠ "java/lang/invoke/MethodHandle" ∧ yX6_weakest.cls ≠ "java/lang/invoke/VarHandle" ∧ (parseMethodDescriptor yX6_weakest.desc).map (fun d => d.parameters.length) = some 0 := by decide +kernel
set_option maxHeartbeats 4000000 in
set_option maxRecDepth 100000 in
theorem c_X6_weakest (l : Launch) (D : va_G) (z : Nat → ClassId) (q : Nat → Nat) (xo : Nat) (xb : Nat) (xg : Nat) (xn : Nat) (xt : Nat) (xp : Nat) (xk : Nat) (xf : Nat) (dy : Int32) (na : Nat) (ia : Nat → Int32) (g1 : Nat) (y1 : Nat) (g2 : Nat) (y2 : Nat) (g3 : Nat) (y3 : Nat) (g4 : Nat) (y4 : Nat) (ct : Nat → Int32) (ti : Nat → Int32) (sh : Nat → Int32) (pr : Nat → Int32) (wt : Int32) (wh : Int32)  : RD l yX6_weakest wsX6_weakest ({ frames := 3, cells := 0, slots := 0, locals := 65 } : Room) D z q [.ref xo] [(xo, .inr (6, [.ref xb, .ref xg, .ref xn, .ref xt, .ref xp, .ref xk, .ref xf, .int dy])), (xn, .inr (4, [.ref na, .ref xg])), (na, .inl (z 1, 26, .inl ia)), (xg, .inr (2, [.ref g1, .ref g2, .ref g3, .ref g4, .int wt, .int wh])), (g1, .inr (1, [.ref y1])), (y1, .inl (z 0, 26, .inl ct)), (g2, .inr (1, [.ref y2])), (y2, .inl (z 0, 26, .inl ti)), (g3, .inr (1, [.ref y3])), (y3, .inl (z 0, 26, .inl sh)), (g4, .inr (1, [.ref y4])), (y4, .inl (z 0, 676, .inl pr))] (some (.int (lWk ia ti sh 25))) := by
  refine RD_mk (cc := cX6_weakest) (maxL := 1) (ret := (some .int)) (by decide) rfl (Nat.le_of_ble_eq_true rfl) ?_
  intro p e s m below meth c hx hb hr hml hts hown hlocks hP hE hS hA ls hl
  have hK := hE.1
  have hown : s.vm.findClass RX6 = some m.cls := hown
  have hl : lv_has ls 1 [(0, .ref xo)] := hl
  refine lv_aload_n hx hb dX6_weakest_0 rfl (lv_at hl 0 rfl) ?_
  refine va_get (D := D) (ci := 6) (v := .ref xn) (C := RX6) (T := TX6) (N := 8) hx hb hts in_X6_weakest_X6 hown hK hP 0 rfl rfl 2 (by decide) (hts (.fieldLink RX6 28 "TypingCoach" "lettersIn" "LTypingCoach$LettersIn;") (List.mem_of_getElem? (i := 1) rfl)) (fun _ h9 => h9) rfl dX6_weakest_1 ?_
  refine rdV (As := []) (rest := []) ⟨hx, hb, hml, hown, hts⟩ (c_X4_weakestOfAll l D z q xn na xg ia g1 y1 g2 y2 g3 y3 g4 y4 ct ti sh pr wt wh) (cwV 0 hts gX6_weakest_X4_weakestOfAll rfl rfl rfl hd_X4_weakestOfAll ⟨Nat.le_of_ble_eq_true rfl, Nat.le_of_ble_eq_true rfl⟩) hE hS hA hP [1, 2, 3, 4, 5, 6, 7, 8, 9, 10, 11] rfl rfl rfl rfl rfl hl.1 rfl (Nat.le_of_ble_eq_true rfl) dX6_weakest_4 ⟨(Nat.le_of_ble_eq_true rfl), (Nat.le_of_ble_eq_true rfl)⟩ ?_
  exact rd_i hx hb hr hlocks dX6_weakest_7 (rfl)
set_option maxRecDepth 20000 in
theorem in_X6_lessons_X6 : ∀ w ∈ wsX60, w ∈ wsX6_lessons := mem_r _ [2, 3, 4, 5, 6, 7, 8, 9] (by decide +kernel)
set_option maxRecDepth 20000 in
theorem in_X6_lessons_X5 : ∀ w ∈ wsX50, w ∈ wsX6_lessons := mem_r _ [10, 11] (by decide +kernel)
theorem hd_X6_lessons : yX6_lessons.cls = RX6 ∧ yX6_lessons.cls ≠ "java/lang/invoke/MethodHandle" ∧ yX6_lessons.cls ≠ "java/lang/invoke/VarHandle" ∧ (parseMethodDescriptor yX6_lessons.desc).map (fun d => d.parameters.length) = some 0 := by decide +kernel
set_option maxHeartbeats 4000000 in
set_option maxRecDepth 100000 in
theorem c_X6_lessons (l : Launch) (D : va_G) (z : Nat → ClassId) (q : Nat → Nat) (xo : Nat) (xb : Nat) (xg : Nat) (xn : Nat) (xt : Nat) (xp : Nat) (xk : Nat) (xf : Nat) (dy : Int32) (p1 : Nat) (k1 : Nat) (kp : Nat → Int32) (sn : Int32)  : RD l yX6_lessons wsX6_lessons ({ frames := 0, cells := 0, slots := 0, locals := 0 } : Room) D z q [.ref xo] [(xo, .inr (6, [.ref xb, .ref xg, .ref xn, .ref xt, .ref xp, .ref xk, .ref xf, .int dy])), (xp, .inr (5, [.ref p1, .int sn])), (p1, .inr (1, [.ref k1])), (k1, .inl (z 0, 100, .inl kp))] (some (.int sn)) := by
  refine RD_mk (cc := cX6_lessons) (maxL := 1) (ret := (some .int)) (by decide) rfl (Nat.le_of_ble_eq_true rfl) ?_
  intro p e s m below meth c hx hb hr hml hts hown hlocks hP hE hS hA ls hl
  have hK := hE.1
  have hown : s.vm.findClass RX6 = some m.cls := hown
  have hl : lv_has ls 1 [(0, .ref xo)] := hl
  refine lv_aload_n hx hb dX6_lessons_0 rfl (lv_at hl 0 rfl) ?_
  refine va_get (D := D) (ci := 6) (v := .ref xp) (C := RX6) (T := TX6) (N := 8) hx hb hts in_X6_lessons_X6 hown hK hP 0 rfl rfl 4 (by decide) (hts (.fieldLink RX6 42 "TypingCoach" "speeds" "LTypingCoach$Speeds;") (List.mem_of_getElem? (i := 1) rfl)) (fun _ h9 => h9) rfl dX6_lessons_1 ?_
  refine va_getN (D := D) (ci := 5) (v := .int sn) (C := RX5) (T := TX5) (N := 2) hx hb hts in_X6_lessons_X5 hown hK hP 1 rfl rfl 1 (by decide) (va_Nw.use rfl (hE.2.1.1 (206, "TypingCoach$Speeds", "size", "I") (List.mem_of_getElem? (i := 8) rfl))) (fun _ h9 => h9) rfl dX6_lessons_4 ?_
  exact rd_i hx hb hr hlocks dX6_lessons_7 (rfl)
set_option maxRecDepth 20000 in
theorem in_X6_speedOf_X6 : ∀ w ∈ wsX60, w ∈ wsX6_speedOf := mem_r _ [14, 15, 16, 17, 18, 19, 20, 21] (by decide +kernel)
set_option maxRecDepth 20000 in
theorem in_X6_speedOf_X5 : ∀ w ∈ wsX50, w ∈ wsX6_speedOf := mem_r _ [22, 23] (by decide +kernel)
theorem hd_X6_speedOf : yX6_speedOf.cls = RX6 ∧ yX6_speedOf.cls ≠ "java/lang/invoke/MethodHandle" ∧ yX6_speedOf.cls ≠ "java/lang/invoke/VarHandle" ∧ (parseMethodDescriptor yX6_speedOf.desc).map (fun d => d.parameters.length) = some 1 := by decide +kernel
set_option maxHeartbeats 4000000 in
set_option maxRecDepth 100000 in
theorem c_X6_speedOf (l : Launch) (D : va_G) (z : Nat → ClassId) (q : Nat → Nat) (xo : Nat) (xb : Nat) (xg : Nat) (xn : Nat) (xt : Nat) (xp : Nat) (xk : Nat) (xf : Nat) (dy : Int32) (p1 : Nat) (k1 : Nat) (kp : Nat → Int32) (sn : Int32) (i : Int32) (sz : Nat) (hlt : l.stackTraces = false) : TX l yX6_speedOf wsX6_speedOf ({ frames := 6, cells := 3, slots := 18, locals := 120 } : Room) D z q [.ref xo, .int i] [(xo, .inr (6, [.ref xb, .ref xg, .ref xn, .ref xt, .ref xp, .ref xk, .ref xf, .int dy])), (xp, .inr (5, [.ref p1, .int sn])), (p1, .inr (1, [.ref k1])), (k1, .inl (z 0, 100, .inl kp))] sz [(xo, .inr (6, [.ref xb, .ref xg, .ref xn, .ref xt, .ref xp, .ref xk, .ref xf, .int dy])), (xp, .inr (5, [.ref p1, .int sn])), (p1, .inr (1, [.ref k1])), (k1, .inl (z 0, 100, .inl kp))] (some (.int (cAt 100 kp i))) (¬ bW i 0 (sn - 1) = 0) (fun E => (bW i 0 (sn - 1) = 0 ∧ E = xI)) := by
  refine TX_mk (Qc := fun A a st o t => (¬ bW i 0 (sn - 1) = 0) ∧ QW D [(xo, .inr (6, [.ref xb, .ref xg, .ref xn, .ref xt, .ref xp, .ref xk, .ref xf, .int dy])), (xp, .inr (5, [.ref p1, .int sn])), (p1, .inr (1, [.ref k1])), (k1, .inl (z 0, 100, .inl kp))] A (some (.int (cAt 100 kp i))) a st o t) (XC := XK (fun E => (bW i 0 (sn - 1) = 0 ∧ E = xI))) (mc := 3) (ms := 18) (cc := cX6_speedOf) (maxL := 2) (ret := (some .int)) (by decide) rfl (Nat.le_of_ble_eq_true rfl) ?_
  intro p e s m below meth c A hx hb hr hml hts hown hlocks hout H hH0 hP hD hE hS hA ls hl
  have hK := hE.1
  have hown : s.vm.findClass RX6 = some m.cls := hown
  have hl : lv_has ls 2 [(0, .ref xo), (1, .int i)] := hl
  refine lv_iload_n hx hb dX6_speedOf_0 rfl (lv_at hl 1 rfl) ?_
  refine lv_iconst (v := 0) hx hb dX6_speedOf_1 (by decide) ?_
  refine lv_aload_n hx hb dX6_speedOf_2 rfl (lv_at hl 0 rfl) ?_
  refine va_get (D := D) (ci := 6) (v := .ref xp) (C := RX6) (T := TX6) (N := 8) hx hb hts in_X6_speedOf_X6 hown hK hP 0 rfl rfl 4 (by decide) (hts (.fieldLink RX6 42 "TypingCoach" "speeds" "LTypingCoach$Speeds;") (List.mem_of_getElem? (i := 3) rfl)) (fun _ h9 => h9) rfl dX6_speedOf_3 ?_
  refine va_getN (D := D) (ci := 5) (v := .int sn) (C := RX5) (T := TX5) (N := 2) hx hb hts in_X6_speedOf_X5 hown hK hP 1 rfl rfl 1 (by decide) (va_Nw.use rfl (hE.2.1.1 (206, "TypingCoach$Speeds", "size", "I") (List.mem_of_getElem? (i := 8) rfl))) (fun _ h9 => h9) rfl dX6_speedOf_6 ?_
  refine lv_iconst (v := 1) hx hb dX6_speedOf_9 (by decide) ?_
  refine lv_isub hx hb dX6_speedOf_10 ?_
  refine rdS (As := [.int i, .int 0, .int (sn - 1)]) (rest := []) ⟨hx, hb, hml, hown, hts⟩ (c_X6_isWithin l D z q i 0 (sn - 1)) (va_cwS 3 hts gX6_speedOf_X6_isWithin rfl rfl rfl hd_X6_isWithin ⟨Nat.le_of_ble_eq_true rfl, Nat.le_of_ble_eq_true rfl⟩) hE hS hA hP [] rfl rfl hl.1 rfl (Nat.le_of_ble_eq_true rfl) dX6_speedOf_11 ⟨(Nat.le_of_ble_eq_true rfl), (Nat.le_of_ble_eq_true rfl)⟩ ?_
  refine lv_if_ne (tgt := 27) hx hb dX6_speedOf_14 (by decide) (fun c_1 => ?_) (fun c_1 => ?_)
  · refine lv_aload_n hx hb dX6_speedOf_27 rfl (lv_at hl 0 rfl) ?_
    refine va_get (D := D) (ci := 6) (v := .ref xp) (C := RX6) (T := TX6) (N := 8) hx hb hts in_X6_speedOf_X6 hown hK hP 0 rfl rfl 4 (by decide) (hts (.fieldLink RX6 42 "TypingCoach" "speeds" "LTypingCoach$Speeds;") (List.mem_of_getElem? (i := 3) rfl)) (fun _ h9 => h9) rfl dX6_speedOf_28 ?_
    refine va_getN (D := D) (ci := 5) (v := .ref p1) (C := RX5) (T := TX5) (N := 2) hx hb hts in_X6_speedOf_X5 hown hK hP 1 rfl rfl 0 (by decide) (va_Nw.use rfl (hE.2.1.1 (209, "TypingCoach$Speeds", "kept", "LTypingCoach$Cells;") (List.mem_of_getElem? (i := 9) rfl))) (fun _ h9 => h9) rfl dX6_speedOf_31 ?_
    refine lv_iload_n hx hb dX6_speedOf_34 rfl (lv_at hl 1 rfl) ?_
    refine rdV (As := [.int i]) (rest := []) ⟨hx, hb, hml, hown, hts⟩ (c_X1_at l D z q p1 k1 100 kp i (Nat.le_of_ble_eq_true rfl)) (cwV 1 hts gX6_speedOf_X1_at rfl rfl rfl hd_X1_at ⟨Nat.le_of_ble_eq_true rfl, Nat.le_of_ble_eq_true rfl⟩) hE hS hA hP [2, 3] rfl rfl rfl rfl rfl hl.1 rfl (Nat.le_of_ble_eq_true rfl) dX6_speedOf_35 ⟨(Nat.le_of_ble_eq_true rfl), (Nat.le_of_ble_eq_true rfl)⟩ ?_
    exact tx_i hx hb hr hlocks hP hD hS dX6_speedOf_38 (c_1) (rfl) (rfl) (Nat.le_of_ble_eq_true rfl) (Nat.le_of_ble_eq_true rfl)
  · exact thr (is := 207) (text := "no such lesson") (cls := xI) hx hb hlt hown fitI xIm (hts (.classLink RX6 70 "java/lang/IndexOutOfBoundsException") (List.mem_of_getElem? (i := 1) rfl)) (hts (.initialized "java/lang/IndexOutOfBoundsException") (List.mem_of_getElem? (i := 2) rfl)) (List.mem_of_getElem? (i := 8) rfl) ng74 (fun w h => hts w (List.mem_cons_of_mem _ (List.mem_append_right _ h))) gd74 hE hS hH0 hml hl.1 dX6_speedOf_17 dX6_speedOf_20 dX6_speedOf_21 dX6_speedOf_23 dX6_speedOf_26 hout hlocks (Nat.le_of_ble_eq_true rfl) (Nat.le_of_ble_eq_true rfl) ⟨(Nat.le_of_ble_eq_true rfl), (Nat.le_of_ble_eq_true rfl)⟩ (⟨c_1, rfl⟩) (Nat.le_of_ble_eq_true rfl) (Nat.le_of_ble_eq_true rfl)
set_option maxRecDepth 20000 in
theorem in_X6_falls_X6 : ∀ w ∈ wsX60, w ∈ wsX6_falls := mem_r _ [15, 16, 17, 18, 19, 20, 21, 22] (by decide +kernel)
theorem hd_X6_falls : yX6_falls.cls = RX6 ∧ yX6_falls.cls ≠ "java/lang/invoke/MethodHandle" ∧ yX6_falls.cls ≠ "java/lang/invoke/VarHandle" ∧ (parseMethodDescriptor yX6_falls.desc).map (fun d => d.parameters.length) = some 0 := by decide +kernel
set_option maxHeartbeats 4000000 in
set_option maxRecDepth 100000 in
theorem c_X6_falls (l : Launch) (D : va_G) (z : Nat → ClassId) (q : Nat → Nat) (xo : Nat) (xb : Nat) (xg : Nat) (xn : Nat) (xt : Nat) (xp : Nat) (xk : Nat) (xf : Nat) (dy : Int32) (p1 : Nat) (k1 : Nat) (kp : Nat → Int32) (sn : Int32) (zn : Nat) (hzz : sn = nI zn) (hz : zn ≤ 100) : RD l yX6_falls wsX6_falls ({ frames := 2, cells := 0, slots := 0, locals := 43 } : Room) D z q [.ref xo] [(xo, .inr (6, [.ref xb, .ref xg, .ref xn, .ref xt, .ref xp, .ref xk, .ref xf, .int dy])), (xp, .inr (5, [.ref p1, .int sn])), (p1, .inr (1, [.ref k1])), (k1, .inl (z 0, 100, .inl kp))] (some (.int (nI (pFall kp (zn - 1))))) := by
  refine RD_mk (cc := cX6_falls) (maxL := 1) (ret := (some .int)) (by decide) rfl (Nat.le_of_ble_eq_true rfl) ?_
  intro p e s m below meth c hx hb hr hml hts hown hlocks hP hE hS hA ls hl
  have hK := hE.1
  have hown : s.vm.findClass RX6 = some m.cls := hown
  have hl : lv_has ls 1 [(0, .ref xo)] := hl
  refine lv_aload_n hx hb dX6_falls_0 rfl (lv_at hl 0 rfl) ?_
  refine va_get (D := D) (ci := 6) (v := .ref xp) (C := RX6) (T := TX6) (N := 8) hx hb hts in_X6_falls_X6 hown hK hP 0 rfl rfl 4 (by decide) (hts (.fieldLink RX6 42 "TypingCoach" "speeds" "LTypingCoach$Speeds;") (List.mem_of_getElem? (i := 1) rfl)) (fun _ h9 => h9) rfl dX6_falls_1 ?_
  refine rdV (As := []) (rest := []) ⟨hx, hb, hml, hown, hts⟩ (c_X5_fallsAtTheEnd l D z q xp p1 k1 kp sn zn hzz hz) (cwV 0 hts gX6_falls_X5_fallsAtTheEnd rfl rfl rfl hd_X5_fallsAtTheEnd ⟨Nat.le_of_ble_eq_true rfl, Nat.le_of_ble_eq_true rfl⟩) hE hS hA hP [1, 2, 3] rfl rfl rfl rfl rfl hl.1 rfl (Nat.le_of_ble_eq_true rfl) dX6_falls_4 ⟨(Nat.le_of_ble_eq_true rfl), (Nat.le_of_ble_eq_true rfl)⟩ ?_
  exact rd_i hx hb hr hlocks dX6_falls_7 (rfl)
