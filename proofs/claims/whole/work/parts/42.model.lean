/-! ===== the model: its private parts ===== -/
theorem hd_X7_in : yX7_in.cls ≠ "java/lang/invoke/MethodHandle" ∧ yX7_in.cls ≠ "java/lang/invoke/VarHandle" ∧ (parseMethodDescriptor yX7_in.desc).map (fun d => d.parameters.length) = some 3 := by decide +kernel
set_option maxHeartbeats 4000000 in
set_option maxRecDepth 100000 in
theorem c_X7_in (l : Launch) (D : va_G) (z : Nat → ClassId) (q : Nat → Nat) (v : Int32) (a : Int32) (b : Int32)  : RD l yX7_in wsX7_in ({ frames := 0, cells := 0, slots := 0, locals := 0 } : Room) D z q [.int v, .int a, .int b] [] (some (.int (bW v a b))) := by
  refine RD_mk (cc := cX7_in) (maxL := 3) (ret := (some .boolean)) (by decide) rfl (Nat.le_of_ble_eq_true rfl) ?_
  intro p e s m below meth c hx hb hr hml hts hown hlocks hP hE hS hA ls hl
  have hK := hE.1
  have hown : s.vm.findClass RX7 = some m.cls := hown
  have hl : lv_has ls 3 [(0, .int v), (1, .int a), (2, .int b)] := hl
  refine lv_iload_n hx hb dX7_in_0 rfl (lv_at hl 0 rfl) ?_
  refine lv_iload_n hx hb dX7_in_1 rfl (lv_at hl 1 rfl) ?_
  refine lv_icmp_lt (tgt := 14) hx hb dX7_in_2 (by decide) (fun c_1 => ?_) (fun c_1 => ?_)
  · refine lv_iconst (v := 0) hx hb dX7_in_14 (by decide) ?_
    exact rd_z hx hb hr hlocks dX7_in_15 (by decide) (by simp only [bW, if_pos c_1, ↓reduceIte])
  · refine lv_iload_n hx hb dX7_in_5 rfl (lv_at hl 0 rfl) ?_
    refine lv_iload_n hx hb dX7_in_6 rfl (lv_at hl 2 rfl) ?_
    refine lv_icmp_gt (tgt := 14) hx hb dX7_in_7 (by decide) (fun c_2 => ?_) (fun c_2 => ?_)
    · refine lv_iconst (v := 0) hx hb dX7_in_14 (by decide) ?_
      exact rd_z hx hb hr hlocks dX7_in_15 (by decide) (by simp only [bW, if_neg c_1, if_pos c_2, ↓reduceIte])
    · refine lv_iconst (v := 1) hx hb dX7_in_10 (by decide) ?_
      refine lv_goto (tgt := 15) hx hb dX7_in_11 (by decide) ?_
      exact rd_z hx hb hr hlocks dX7_in_15 (by decide) (by simp only [bW, if_neg c_1, if_neg c_2, ↓reduceIte])
theorem hd_X7_isLetter : yX7_isLetter.cls ≠ "java/lang/invoke/MethodHandle" ∧ yX7_isLetter.cls ≠ "java/lang/invoke/VarHandle" ∧ (parseMethodDescriptor yX7_isLetter.desc).map (fun d => d.parameters.length) = some 1 := by decide +kernel
set_option maxHeartbeats 4000000 in
set_option maxRecDepth 100000 in
theorem c_X7_isLetter (l : Launch) (D : va_G) (z : Nat → ClassId) (q : Nat → Nat) (i : Int32)  : RD l yX7_isLetter wsX7_isLetter ({ frames := 1, cells := 0, slots := 0, locals := 22 } : Room) D z q [.int i] [] (some (.int (bW i 0 25))) := by
  refine RD_mk (cc := cX7_isLetter) (maxL := 1) (ret := (some .boolean)) (by decide) rfl (Nat.le_of_ble_eq_true rfl) ?_
  intro p e s m below meth c hx hb hr hml hts hown hlocks hP hE hS hA ls hl
  have hK := hE.1
  have hown : s.vm.findClass RX7 = some m.cls := hown
  have hl : lv_has ls 1 [(0, .int i)] := hl
  refine lv_iload_n hx hb dX7_isLetter_0 rfl (lv_at hl 0 rfl) ?_
  refine lv_iconst (v := 0) hx hb dX7_isLetter_1 (by decide) ?_
  refine lv_bipush (v := 25) hx hb dX7_isLetter_2 (by decide) ?_
  refine rdS (As := [.int i, .int 0, .int 25]) (rest := []) ⟨hx, hb, hml, hown, hts⟩ (c_X7_in l D z q i 0 25) (va_cwS 3 hts gX7_isLetter_X7_in rfl rfl rfl hd_X7_in ⟨Nat.le_of_ble_eq_true rfl, Nat.le_of_ble_eq_true rfl⟩) hE hS hA hP [] rfl rfl hl.1 rfl (Nat.le_of_ble_eq_true rfl) dX7_isLetter_4 ⟨(Nat.le_of_ble_eq_true rfl), (Nat.le_of_ble_eq_true rfl)⟩ ?_
  exact rd_z hx hb hr hlocks dX7_isLetter_7 (bW_n _ _ _) (rfl)
set_option maxRecDepth 20000 in
theorem in_X7_thrown_X7 : ∀ w ∈ wsX70, w ∈ wsX7_thrown := mem_r _ [2, 3, 4, 5, 6, 7, 8, 9, 10, 11, 12, 13, 14, 15, 16, 17, 18, 19, 20, 21] (by decide +kernel)
theorem hd_X7_thrown : yX7_thrown.cls = RX7 ∧ yX7_thrown.cls ≠ "java/lang/invoke/MethodHandle" ∧ yX7_thrown.cls ≠ "java/lang/invoke/VarHandle" ∧ (parseMethodDescriptor yX7_thrown.desc).map (fun d => d.parameters.length) = some 0 := by decide +kernel
set_option maxHeartbeats 4000000 in
set_option maxRecDepth 100000 in
theorem c_X7_thrown (l : Launch) (D : va_G) (z : Nat → ClassId) (q : Nat → Nat) (mx : Nat) (th : Int32) (m1 : Nat) (m2 : Nat) (m3 : Nat) (m4 : Nat) (m5 : Nat) (m6 : Nat) (m7 : Nat) (m8 : Nat) (m9 : Nat) (m10 : Nat) (m11 : Nat) (pl : Nat → Int32) (ct : Nat → Int32) (ti : Nat → Int32) (sh : Nat → Int32) (ia : Nat → Int32) (pr : Nat → Int32) (lt : Nat → Int32) (ty : Nat → Int32) (zz : Int32) (po : Int32) (ml : Int32) (me : Int32) (ek : Nat → Int32) (ef : Nat → Int32) (wt : Int32) (wh : Int32) (sn : Int32) (kp : Nat → Int32) (dy : Int32)  : RD l yX7_thrown wsX7_thrown ({ frames := 0, cells := 0, slots := 0, locals := 0 } : Room) D z q [.ref mx] [(mx, .inr (7, [.int th, .ref m1, .ref m2, .ref m3, .ref m4, .ref m5, .ref m6, .ref m7, .ref m8, .int zz, .int po, .int ml, .int me, .ref m9, .ref m10, .int wt, .int wh, .int sn, .ref m11, .int dy])), (m1, .inl (z 0, 26, .inl pl)), (m2, .inl (z 0, 26, .inl ct)), (m3, .inl (z 0, 26, .inl ti)), (m4, .inl (z 0, 26, .inl sh)), (m5, .inl (z 1, 26, .inl ia)), (m6, .inl (z 0, 676, .inl pr)), (m7, .inl (z 0, 40, .inl lt)), (m8, .inl (z 0, 40, .inl ty)), (m9, .inl (z 0, 5, .inl ek)), (m10, .inl (z 0, 8, .inl ef)), (m11, .inl (z 0, 100, .inl kp))] (some (.int th)) := by
  refine RD_mk (cc := cX7_thrown) (maxL := 1) (ret := (some .int)) (by decide) rfl (Nat.le_of_ble_eq_true rfl) ?_
  intro p e s m below meth c hx hb hr hml hts hown hlocks hP hE hS hA ls hl
  have hK := hE.1
  have hown : s.vm.findClass RX7 = some m.cls := hown
  have hl : lv_has ls 1 [(0, .ref mx)] := hl
  refine lv_aload_n hx hb dX7_thrown_0 rfl (lv_at hl 0 rfl) ?_
  refine va_get (D := D) (ci := 7) (v := .int th) (C := RX7) (T := TX7) (N := 20) hx hb hts in_X7_thrown_X7 hown hK hP 0 rfl rfl 0 (by decide) (hts (.fieldLink RX7 51 "TypingCoachModel" "thrown" "I") (List.mem_of_getElem? (i := 1) rfl)) (fun _ h9 => h9) rfl dX7_thrown_1 ?_
  exact rd_i hx hb hr hlocks dX7_thrown_4 (rfl)
set_option maxRecDepth 20000 in
theorem in_X7_holds_X7 : ∀ w ∈ wsX70, w ∈ wsX7_holds := mem_r _ [2, 3, 4, 5, 6, 7, 8, 9, 10, 11, 12, 13, 14, 15, 16, 17, 18, 19, 20, 21] (by decide +kernel)
theorem hd_X7_holds : yX7_holds.cls = RX7 ∧ yX7_holds.cls ≠ "java/lang/invoke/MethodHandle" ∧ yX7_holds.cls ≠ "java/lang/invoke/VarHandle" ∧ (parseMethodDescriptor yX7_holds.desc).map (fun d => d.parameters.length) = some 1 := by decide +kernel
set_option maxHeartbeats 4000000 in
set_option maxRecDepth 100000 in
theorem c_X7_holds (l : Launch) (D : va_G) (z : Nat → ClassId) (q : Nat → Nat) (mx : Nat) (th : Int32) (m1 : Nat) (m2 : Nat) (m3 : Nat) (m4 : Nat) (m5 : Nat) (m6 : Nat) (m7 : Nat) (m8 : Nat) (m9 : Nat) (m10 : Nat) (m11 : Nat) (zz : Int32) (po : Int32) (ml : Int32) (me : Int32) (wt : Int32) (wh : Int32) (sn : Int32) (dy : Int32) (k : Int32) (sz : Nat)  : WR l yX7_holds wsX7_holds ({ frames := 0, cells := 0, slots := 0, locals := 0 } : Room) D z q [.ref mx, .int k] [(mx, .inr (7, [.int th, .ref m1, .ref m2, .ref m3, .ref m4, .ref m5, .ref m6, .ref m7, .ref m8, .int zz, .int po, .int ml, .int me, .ref m9, .ref m10, .int wt, .int wh, .int sn, .ref m11, .int dy]))] sz [(mx, .inr (7, [.int k, .ref m1, .ref m2, .ref m3, .ref m4, .ref m5, .ref m6, .ref m7, .ref m8, .int zz, .int po, .int ml, .int me, .ref m9, .ref m10, .int wt, .int wh, .int sn, .ref m11, .int dy]))] (some (.int (mHold k))) := by
  refine WR_mk (Qc := fun A => QW D [(mx, .inr (7, [.int k, .ref m1, .ref m2, .ref m3, .ref m4, .ref m5, .ref m6, .ref m7, .ref m8, .int zz, .int po, .int ml, .int me, .ref m9, .ref m10, .int wt, .int wh, .int sn, .ref m11, .int dy]))] A (some (.int (mHold k)))) (cc := cX7_holds) (maxL := 2) (ret := (some .boolean)) (by decide) rfl (Nat.le_of_ble_eq_true rfl) ?_
  intro p e s m below meth c A hx hb hr hml hts hown hlocks hin0 H hP hD hE hS hA ls hl
  have hK := hE.1
  have hown : s.vm.findClass RX7 = some m.cls := hown
  have hl : lv_has ls 2 [(0, .ref mx), (1, .int k)] := hl
  refine lv_aload_n hx hb dX7_holds_0 rfl (lv_at hl 0 rfl) ?_
  refine lv_iload_n hx hb dX7_holds_1 rfl (lv_at hl 1 rfl) ?_
  refine va_put (D := D) (ci := 7) (v := .int k) (ty := .int) (C := RX7) (T := TX7) (N := 20) hx hb hts in_X7_holds_X7 tyX7 tyX7_ok nmX7 hown hK hP hD hS 0 rfl rfl 0 (by decide) (hts (.fieldLink RX7 51 "TypingCoachModel" "thrown" "I") (List.mem_of_getElem? (i := 1) rfl)) (fun _ h9 => h9) rfl (by decide +kernel) rfl rfl (Nat.le_of_ble_eq_true rfl) dX7_holds_2 (fun H locs hP hD hS => ?_)
  have hP : va_P D vwCl [(mx, .inr (7, [.int k, .ref m1, .ref m2, .ref m3, .ref m4, .ref m5, .ref m6, .ref m7, .ref m8, .int zz, .int po, .int ml, .int me, .ref m9, .ref m10, .int wt, .int wh, .int sn, .ref m11, .int dy]))] H := hP
  have hD : va_D A [(mx, .inr (7, [.int k, .ref m1, .ref m2, .ref m3, .ref m4, .ref m5, .ref m6, .ref m7, .ref m8, .int zz, .int po, .int ml, .int me, .ref m9, .ref m10, .int wt, .int wh, .int sn, .ref m11, .int dy]))] := hD
  refine lv_iload_n hx hb dX7_holds_5 rfl (lv_at hl 1 rfl) ?_
  refine lv_if_ne (tgt := 13) hx hb dX7_holds_6 (by decide) (fun c_1 => ?_) (fun c_1 => ?_)
  · refine lv_iconst (v := 0) hx hb dX7_holds_13 (by decide) ?_
    exact wr_z hx hb hr hlocks (by decide) hP hD hS dX7_holds_14 (by simp only [mHold, if_neg c_1, ↓reduceIte]) (by simp only [mHold, if_neg c_1, ↓reduceIte]) (Nat.le_refl _) (Nat.le_refl _)
  · refine lv_iconst (v := 1) hx hb dX7_holds_9 (by decide) ?_
    refine lv_goto (tgt := 14) hx hb dX7_holds_10 (by decide) ?_
    exact wr_z hx hb hr hlocks (by decide) hP hD hS dX7_holds_14 (by simp only [mHold, if_pos c_1, ↓reduceIte]) (by simp only [mHold, if_pos c_1, ↓reduceIte]) (Nat.le_refl _) (Nat.le_refl _)
set_option maxRecDepth 20000 in
theorem in_X7_letterAt_X7 : ∀ w ∈ wsX70, w ∈ wsX7_letterAt := mem_r _ [2, 3, 4, 5, 6, 7, 8, 9, 10, 11, 12, 13, 14, 15, 16, 17, 18, 19, 20, 21] (by decide +kernel)
theorem hd_X7_letterAt : yX7_letterAt.cls = RX7 ∧ yX7_letterAt.cls ≠ "java/lang/invoke/MethodHandle" ∧ yX7_letterAt.cls ≠ "java/lang/invoke/VarHandle" ∧ (parseMethodDescriptor yX7_letterAt.desc).map (fun d => d.parameters.length) = some 1 := by decide +kernel
set_option maxHeartbeats 4000000 in
set_option maxRecDepth 100000 in
theorem c_X7_letterAt (l : Launch) (D : va_G) (z : Nat → ClassId) (q : Nat → Nat) (mx : Nat) (th : Int32) (m1 : Nat) (m2 : Nat) (m3 : Nat) (m4 : Nat) (m5 : Nat) (m6 : Nat) (m7 : Nat) (m8 : Nat) (m9 : Nat) (m10 : Nat) (m11 : Nat) (pl : Nat → Int32) (ct : Nat → Int32) (ti : Nat → Int32) (sh : Nat → Int32) (ia : Nat → Int32) (pr : Nat → Int32) (lt : Nat → Int32) (ty : Nat → Int32) (zz : Int32) (po : Int32) (ml : Int32) (me : Int32) (ek : Nat → Int32) (ef : Nat → Int32) (wt : Int32) (wh : Int32) (sn : Int32) (kp : Nat → Int32) (dy : Int32) (v : Int32)  : RD l yX7_letterAt wsX7_letterAt ({ frames := 0, cells := 0, slots := 0, locals := 0 } : Room) D z q [.ref mx, .int v] [(mx, .inr (7, [.int th, .ref m1, .ref m2, .ref m3, .ref m4, .ref m5, .ref m6, .ref m7, .ref m8, .int zz, .int po, .int ml, .int me, .ref m9, .ref m10, .int wt, .int wh, .int sn, .ref m11, .int dy])), (m1, .inl (z 0, 26, .inl pl)), (m2, .inl (z 0, 26, .inl ct)), (m3, .inl (z 0, 26, .inl ti)), (m4, .inl (z 0, 26, .inl sh)), (m5, .inl (z 1, 26, .inl ia)), (m6, .inl (z 0, 676, .inl pr)), (m7, .inl (z 0, 40, .inl lt)), (m8, .inl (z 0, 40, .inl ty)), (m9, .inl (z 0, 5, .inl ek)), (m10, .inl (z 0, 8, .inl ef)), (m11, .inl (z 0, 100, .inl kp))] (some (.int (mLet pl v))) := by
  refine RD_mk (cc := cX7_letterAt) (maxL := 3) (ret := (some .int)) (by decide) rfl (Nat.le_of_ble_eq_true rfl) ?_
  intro p e s m below meth c hx hb hr hml hts hown hlocks hP hE hS hA ls hl
  have hK := hE.1
  have hown : s.vm.findClass RX7 = some m.cls := hown
  have hl : lv_has ls 3 [(0, .ref mx), (1, .int v)] := hl
  refine lv_iconst (v := 0) hx hb dX7_letterAt_0 (by decide) ?_
  refine lv_istore_n (lv' := [(2, .int 0), (0, .ref mx), (1, .int v)]) hx hb dX7_letterAt_1 rfl hl (by decide) rfl (fun ls hl => ?_)
  have loop_1 : ∀ (n : Nat) (j : Nat), j ≤ 26 → 26 < j + n → mLtN pl v = lFst (mLtO pl v) (26 - j) j → ∀ ls : Array Slot, lv_has ls 3 [(2, .int (nI j)), (0, .ref mx), (1, .int v)] → W p l e ({ frames := 0, cells := 0, slots := 0, locals := 0 } : Room) s m ([.ref mx, .int v] : List Value).toArray below meth c s.heap [] 0 0 (MQ below (QR (some (.int (mLet pl v)))) ([.ref mx, .int v] : List Value).toArray s 0 0 (fun _ => False)) (F0 m 2 ls []) := by
    intro n
    induction n with
    | zero => intro j hj hf hff; exact absurd hf (by omega)
    | succ n ih =>
      intro j hj hf hff ls hl
      refine lv_iload_n hx hb dX7_letterAt_2 rfl (lv_at hl 0 rfl) ?_
      refine lv_bipush (v := 26) hx hb dX7_letterAt_3 (by decide) ?_
      refine lv_icmp_ge (tgt := 26) hx hb dX7_letterAt_5 (by decide) (fun c_2 => ?_) (fun c_2 => ?_)
      · have hj2 : j = 26 := lpx c_2 hj (Nat.le_of_ble_eq_true rfl) rfl
        have hnew : mLtN pl v = 26 := by rw [hff, hj2]; rfl
        refine lv_iconst (v := (-1)) hx hb dX7_letterAt_26 (by decide) ?_
        exact rd_i hx hb hr hlocks dX7_letterAt_27 (by rw [mLet, hnew]; rfl)
      · have hjl : j < 26 := lpn c_2 hj (Nat.le_of_ble_eq_true rfl) rfl
        refine lv_aload_n hx hb dX7_letterAt_8 rfl (lv_at hl 1 rfl) ?_
        refine va_get (D := D) (ci := 7) (v := .ref m1) (C := RX7) (T := TX7) (N := 20) hx hb hts in_X7_letterAt_X7 hown hK hP 0 rfl rfl 1 (by decide) (hts (.fieldLink RX7 7 "TypingCoachModel" "places" "[I") (List.mem_of_getElem? (i := 1) rfl)) (fun _ h9 => h9) rfl dX7_letterAt_9 ?_
        refine lv_iload_n hx hb dX7_letterAt_12 rfl (lv_at hl 0 rfl) ?_
        refine mIald hx hb hK hP 1 0 rfl rfl (Nat.le_of_ble_eq_true rfl) (vp_in_nI hjl (Nat.le_of_ble_eq_true rfl)) dX7_letterAt_13 ?_
        refine lv_iload_n hx hb dX7_letterAt_14 rfl (lv_at hl 2 rfl) ?_
        refine lv_icmp_ne (tgt := 20) hx hb dX7_letterAt_15 (by decide) (fun c_3 => ?_) (fun c_3 => ?_)
        · refine lv_iinc (v := nI (j + 1)) (lv' := [(2, .int (nI (j + 1))), (0, .ref mx), (1, .int v)]) hx hb dX7_letterAt_20 hl (k := 0) rfl (nI_1 j) (by decide) rfl (fun ls hl => ?_)
          refine lv_goto (tgt := 2) hx hb dX7_letterAt_23 (by decide) ?_
          exact ih (j + 1) (by omega) (by omega) (hff.trans (lFst_f (o := mLtO pl v) (decide_eq_false (by rw [← cAt_nI pl hjl (Nat.le_of_ble_eq_true rfl)]; exact c_3)) hjl)) ls (lv_sub hl [0, 1, 2] rfl)
        · have hnew : mLtN pl v = j := hff.trans (lFst_t (o := mLtO pl v) (decide_eq_true (by rw [← cAt_nI pl hjl (Nat.le_of_ble_eq_true rfl)]; exact c_3)) hjl)
          refine lv_iload_n hx hb dX7_letterAt_18 rfl (lv_at hl 0 rfl) ?_
          exact rd_i hx hb hr hlocks dX7_letterAt_19 (by rw [mLet, hnew, if_pos hjl])
  exact loop_1 27 0 (by omega) (by omega) rfl ls (lv_sub hl [0, 1, 2] rfl)
set_option maxRecDepth 20000 in
theorem in_X7_fingerOf_X7 : ∀ w ∈ wsX70, w ∈ wsX7_fingerOf := mem_r _ [2, 3, 4, 5, 6, 7, 8, 9, 10, 11, 12, 13, 14, 15, 16, 17, 18, 19, 20, 21] (by decide +kernel)
theorem hd_X7_fingerOf : yX7_fingerOf.cls = RX7 ∧ yX7_fingerOf.cls ≠ "java/lang/invoke/MethodHandle" ∧ yX7_fingerOf.cls ≠ "java/lang/invoke/VarHandle" ∧ (parseMethodDescriptor yX7_fingerOf.desc).map (fun d => d.parameters.length) = some 1 := by decide +kernel
set_option maxHeartbeats 4000000 in
set_option maxRecDepth 100000 in
theorem c_X7_fingerOf (l : Launch) (D : va_G) (z : Nat → ClassId) (q : Nat → Nat) (mx : Nat) (th : Int32) (m1 : Nat) (m2 : Nat) (m3 : Nat) (m4 : Nat) (m5 : Nat) (m6 : Nat) (m7 : Nat) (m8 : Nat) (m9 : Nat) (m10 : Nat) (m11 : Nat) (pl : Nat → Int32) (ct : Nat → Int32) (ti : Nat → Int32) (sh : Nat → Int32) (ia : Nat → Int32) (pr : Nat → Int32) (lt : Nat → Int32) (ty : Nat → Int32) (zz : Int32) (po : Int32) (ml : Int32) (me : Int32) (ek : Nat → Int32) (ef : Nat → Int32) (wt : Int32) (wh : Int32) (sn : Int32) (kp : Nat → Int32) (dy : Int32) (i : Int32) (hi : vp_in i 26) : RD l yX7_fingerOf wsX7_fingerOf ({ frames := 0, cells := 0, slots := 0, locals := 0 } : Room) D z q [.ref mx, .int i] [(mx, .inr (7, [.int th, .ref m1, .ref m2, .ref m3, .ref m4, .ref m5, .ref m6, .ref m7, .ref m8, .int zz, .int po, .int ml, .int me, .ref m9, .ref m10, .int wt, .int wh, .int sn, .ref m11, .int dy])), (m1, .inl (z 0, 26, .inl pl)), (m2, .inl (z 0, 26, .inl ct)), (m3, .inl (z 0, 26, .inl ti)), (m4, .inl (z 0, 26, .inl sh)), (m5, .inl (z 1, 26, .inl ia)), (m6, .inl (z 0, 676, .inl pr)), (m7, .inl (z 0, 40, .inl lt)), (m8, .inl (z 0, 40, .inl ty)), (m9, .inl (z 0, 5, .inl ek)), (m10, .inl (z 0, 8, .inl ef)), (m11, .inl (z 0, 100, .inl kp))] (some (.int (mFin (bCol pl i)))) := by
  refine RD_mk (cc := cX7_fingerOf) (maxL := 3) (ret := (some .int)) (by decide) rfl (Nat.le_of_ble_eq_true rfl) ?_
  intro p e s m below meth c hx hb hr hml hts hown hlocks hP hE hS hA ls hl
  have hK := hE.1
  have hown : s.vm.findClass RX7 = some m.cls := hown
  have hl : lv_has ls 3 [(0, .ref mx), (1, .int i)] := hl
  refine lv_aload_n hx hb dX7_fingerOf_0 rfl (lv_at hl 0 rfl) ?_
  refine va_get (D := D) (ci := 7) (v := .ref m1) (C := RX7) (T := TX7) (N := 20) hx hb hts in_X7_fingerOf_X7 hown hK hP 0 rfl rfl 1 (by decide) (hts (.fieldLink RX7 7 "TypingCoachModel" "places" "[I") (List.mem_of_getElem? (i := 1) rfl)) (fun _ h9 => h9) rfl dX7_fingerOf_1 ?_
  refine lv_iload_n hx hb dX7_fingerOf_4 rfl (lv_at hl 1 rfl) ?_
  refine mIald hx hb hK hP 1 0 rfl rfl (Nat.le_of_ble_eq_true rfl) hi dX7_fingerOf_5 ?_
  refine lv_bipush (v := 10) hx hb dX7_fingerOf_6 (by decide) ?_
  refine lv_irem hx hb dX7_fingerOf_8 (by decide) ?_
  refine lv_istore_n (lv' := [(2, .int ((cAt 26 pl i) - (cAt 26 pl i) / 10 * 10)), (0, .ref mx), (1, .int i)]) hx hb dX7_fingerOf_9 rfl hl (by decide) rfl (fun ls hl => ?_)
  refine lv_iload_n hx hb dX7_fingerOf_10 rfl (lv_at hl 0 rfl) ?_
  refine lv_iconst (v := 4) hx hb dX7_fingerOf_11 (by decide) ?_
  refine lv_icmp_ge (tgt := 19) hx hb dX7_fingerOf_12 (by decide) (fun c_1 => ?_) (fun c_1 => ?_)
  · refine lv_iload_n hx hb dX7_fingerOf_19 rfl (lv_at hl 0 rfl) ?_
    refine lv_iconst (v := 4) hx hb dX7_fingerOf_20 (by decide) ?_
    refine lv_icmp_ne (tgt := 28) hx hb dX7_fingerOf_21 (by decide) (fun c_2 => ?_) (fun c_2 => ?_)
    · refine lv_iload_n hx hb dX7_fingerOf_28 rfl (lv_at hl 0 rfl) ?_
      refine lv_iconst (v := 5) hx hb dX7_fingerOf_29 (by decide) ?_
      refine lv_icmp_ne (tgt := 37) hx hb dX7_fingerOf_30 (by decide) (fun c_3 => ?_) (fun c_3 => ?_)
      · refine lv_iload_n hx hb dX7_fingerOf_37 rfl (lv_at hl 0 rfl) ?_
        refine lv_iconst (v := 2) hx hb dX7_fingerOf_38 (by decide) ?_
        refine lv_isub hx hb dX7_fingerOf_39 ?_
        exact rd_i hx hb hr hlocks dX7_fingerOf_40 (by rw [mFin, bCol, if_pos c_1, if_neg c_2, if_neg c_3])
      · refine lv_iconst (v := 4) hx hb dX7_fingerOf_33 (by decide) ?_
        refine lv_goto (tgt := 40) hx hb dX7_fingerOf_34 (by decide) ?_
        exact rd_i hx hb hr hlocks dX7_fingerOf_40 (by rw [mFin, bCol, if_pos c_1, if_neg c_2, if_pos c_3])
    · refine lv_iconst (v := 3) hx hb dX7_fingerOf_24 (by decide) ?_
      refine lv_goto (tgt := 40) hx hb dX7_fingerOf_25 (by decide) ?_
      exact rd_i hx hb hr hlocks dX7_fingerOf_40 (by rw [mFin, bCol, if_pos c_1, if_pos c_2])
  · refine lv_iload_n hx hb dX7_fingerOf_15 rfl (lv_at hl 0 rfl) ?_
    refine lv_goto (tgt := 40) hx hb dX7_fingerOf_16 (by decide) ?_
    exact rd_i hx hb hr hlocks dX7_fingerOf_40 (by rw [mFin, bCol, if_neg c_1])
set_option maxRecDepth 20000 in
theorem in_X7_isBeside_X7 : ∀ w ∈ wsX70, w ∈ wsX7_isBeside := mem_r _ [6, 7, 8, 9, 10, 11, 12, 13, 14, 15, 16, 17, 18, 19, 20, 21, 22, 23, 24, 25] (by decide +kernel)
theorem hd_X7_isBeside : yX7_isBeside.cls = RX7 ∧ yX7_isBeside.cls ≠ "java/lang/invoke/MethodHandle" ∧ yX7_isBeside.cls ≠ "java/lang/invoke/VarHandle" ∧ (parseMethodDescriptor yX7_isBeside.desc).map (fun d => d.parameters.length) = some 2 := by decide +kernel
set_option maxHeartbeats 4000000 in
set_option maxRecDepth 100000 in
theorem c_X7_isBeside (l : Launch) (D : va_G) (z : Nat → ClassId) (q : Nat → Nat) (mx : Nat) (th : Int32) (m1 : Nat) (m2 : Nat) (m3 : Nat) (m4 : Nat) (m5 : Nat) (m6 : Nat) (m7 : Nat) (m8 : Nat) (m9 : Nat) (m10 : Nat) (m11 : Nat) (pl : Nat → Int32) (ct : Nat → Int32) (ti : Nat → Int32) (sh : Nat → Int32) (ia : Nat → Int32) (pr : Nat → Int32) (lt : Nat → Int32) (ty : Nat → Int32) (zz : Int32) (po : Int32) (ml : Int32) (me : Int32) (ek : Nat → Int32) (ef : Nat → Int32) (wt : Int32) (wh : Int32) (sn : Int32) (kp : Nat → Int32) (dy : Int32) (i : Int32) (j : Int32) (hi : vp_in i 26) (hj : vp_in j 26) : RD l yX7_isBeside wsX7_isBeside ({ frames := 1, cells := 0, slots := 0, locals := 22 } : Room) D z q [.ref mx, .int i, .int j] [(mx, .inr (7, [.int th, .ref m1, .ref m2, .ref m3, .ref m4, .ref m5, .ref m6, .ref m7, .ref m8, .int zz, .int po, .int ml, .int me, .ref m9, .ref m10, .int wt, .int wh, .int sn, .ref m11, .int dy])), (m1, .inl (z 0, 26, .inl pl)), (m2, .inl (z 0, 26, .inl ct)), (m3, .inl (z 0, 26, .inl ti)), (m4, .inl (z 0, 26, .inl sh)), (m5, .inl (z 1, 26, .inl ia)), (m6, .inl (z 0, 676, .inl pr)), (m7, .inl (z 0, 40, .inl lt)), (m8, .inl (z 0, 40, .inl ty)), (m9, .inl (z 0, 5, .inl ek)), (m10, .inl (z 0, 8, .inl ef)), (m11, .inl (z 0, 100, .inl kp))] (some (.int (mBes pl i j))) := by
  refine RD_mk (cc := cX7_isBeside) (maxL := 5) (ret := (some .boolean)) (by decide) rfl (Nat.le_of_ble_eq_true rfl) ?_
  intro p e s m below meth c hx hb hr hml hts hown hlocks hP hE hS hA ls hl
  have hK := hE.1
  have hown : s.vm.findClass RX7 = some m.cls := hown
  have hl : lv_has ls 5 [(0, .ref mx), (1, .int i), (2, .int j)] := hl
  refine lv_aload_n hx hb dX7_isBeside_0 rfl (lv_at hl 0 rfl) ?_
  refine va_get (D := D) (ci := 7) (v := .ref m1) (C := RX7) (T := TX7) (N := 20) hx hb hts in_X7_isBeside_X7 hown hK hP 0 rfl rfl 1 (by decide) (hts (.fieldLink RX7 7 "TypingCoachModel" "places" "[I") (List.mem_of_getElem? (i := 1) rfl)) (fun _ h9 => h9) rfl dX7_isBeside_1 ?_
  refine lv_iload_n hx hb dX7_isBeside_4 rfl (lv_at hl 1 rfl) ?_
  refine mIald hx hb hK hP 1 0 rfl rfl (Nat.le_of_ble_eq_true rfl) hi dX7_isBeside_5 ?_
  refine lv_bipush (v := 10) hx hb dX7_isBeside_6 (by decide) ?_
  refine lv_irem hx hb dX7_isBeside_8 (by decide) ?_
  refine lv_aload_n hx hb dX7_isBeside_9 rfl (lv_at hl 0 rfl) ?_
  refine va_get (D := D) (ci := 7) (v := .ref m1) (C := RX7) (T := TX7) (N := 20) hx hb hts in_X7_isBeside_X7 hown hK hP 0 rfl rfl 1 (by decide) (hts (.fieldLink RX7 7 "TypingCoachModel" "places" "[I") (List.mem_of_getElem? (i := 1) rfl)) (fun _ h9 => h9) rfl dX7_isBeside_10 ?_
  refine lv_iload_n hx hb dX7_isBeside_13 rfl (lv_at hl 2 rfl) ?_
  refine mIald hx hb hK hP 1 0 rfl rfl (Nat.le_of_ble_eq_true rfl) hj dX7_isBeside_14 ?_
  refine lv_bipush (v := 10) hx hb dX7_isBeside_15 (by decide) ?_
  refine lv_irem hx hb dX7_isBeside_17 (by decide) ?_
  refine lv_isub hx hb dX7_isBeside_18 ?_
  refine lv_istore_n (lv' := [(3, .int (((cAt 26 pl i) - (cAt 26 pl i) / 10 * 10) - ((cAt 26 pl j) - (cAt 26 pl j) / 10 * 10))), (0, .ref mx), (1, .int i), (2, .int j)]) hx hb dX7_isBeside_19 rfl hl (by decide) rfl (fun ls hl => ?_)
  refine lv_aload_n hx hb dX7_isBeside_20 rfl (lv_at hl 1 rfl) ?_
  refine va_get (D := D) (ci := 7) (v := .ref m1) (C := RX7) (T := TX7) (N := 20) hx hb hts in_X7_isBeside_X7 hown hK hP 0 rfl rfl 1 (by decide) (hts (.fieldLink RX7 7 "TypingCoachModel" "places" "[I") (List.mem_of_getElem? (i := 1) rfl)) (fun _ h9 => h9) rfl dX7_isBeside_21 ?_
  refine lv_iload_n hx hb dX7_isBeside_24 rfl (lv_at hl 2 rfl) ?_
  refine mIald hx hb hK hP 1 0 rfl rfl (Nat.le_of_ble_eq_true rfl) hi dX7_isBeside_25 ?_
  refine lv_bipush (v := 10) hx hb dX7_isBeside_26 (by decide) ?_
  refine lv_idiv hx hb dX7_isBeside_28 (by decide) ?_
  refine lv_aload_n hx hb dX7_isBeside_29 rfl (lv_at hl 1 rfl) ?_
  refine va_get (D := D) (ci := 7) (v := .ref m1) (C := RX7) (T := TX7) (N := 20) hx hb hts in_X7_isBeside_X7 hown hK hP 0 rfl rfl 1 (by decide) (hts (.fieldLink RX7 7 "TypingCoachModel" "places" "[I") (List.mem_of_getElem? (i := 1) rfl)) (fun _ h9 => h9) rfl dX7_isBeside_30 ?_
  refine lv_iload_n hx hb dX7_isBeside_33 rfl (lv_at hl 3 rfl) ?_
  refine mIald hx hb hK hP 1 0 rfl rfl (Nat.le_of_ble_eq_true rfl) hj dX7_isBeside_34 ?_
  refine lv_bipush (v := 10) hx hb dX7_isBeside_35 (by decide) ?_
  refine lv_idiv hx hb dX7_isBeside_37 (by decide) ?_
  refine lv_isub hx hb dX7_isBeside_38 ?_
  refine lv_istore (lv' := [(4, .int (((cAt 26 pl i) / 10) - ((cAt 26 pl j) / 10))), (3, .int (((cAt 26 pl i) - (cAt 26 pl i) / 10 * 10) - ((cAt 26 pl j) - (cAt 26 pl j) / 10 * 10))), (0, .ref mx), (1, .int i), (2, .int j)]) hx hb dX7_isBeside_39 hl (by decide) rfl (fun ls hl => ?_)
  refine lv_iload_n hx hb dX7_isBeside_41 rfl (lv_at hl 1 rfl) ?_
  refine lv_iconst (v := (-1)) hx hb dX7_isBeside_42 (by decide) ?_
  refine lv_iconst (v := 1) hx hb dX7_isBeside_43 (by decide) ?_
  refine rdS (As := [.int (((cAt 26 pl i) - (cAt 26 pl i) / 10 * 10) - ((cAt 26 pl j) - (cAt 26 pl j) / 10 * 10)), .int (-1), .int 1]) (rest := []) ⟨hx, hb, hml, hown, hts⟩ (c_X7_in l D z q (((cAt 26 pl i) - (cAt 26 pl i) / 10 * 10) - ((cAt 26 pl j) - (cAt 26 pl j) / 10 * 10)) (-1) 1) (va_cwS 3 hts gX7_isBeside_X7_in rfl rfl rfl hd_X7_in ⟨Nat.le_of_ble_eq_true rfl, Nat.le_of_ble_eq_true rfl⟩) hE hS hA hP [] rfl rfl hl.1 rfl (Nat.le_of_ble_eq_true rfl) dX7_isBeside_44 ⟨(Nat.le_of_ble_eq_true rfl), (Nat.le_of_ble_eq_true rfl)⟩ ?_
  refine lv_if_eq (tgt := 64) hx hb dX7_isBeside_47 (by decide) (fun c_1 => ?_) (fun c_1 => ?_)
  · refine lv_iconst (v := 0) hx hb dX7_isBeside_64 (by decide) ?_
    exact rd_z hx hb hr hlocks dX7_isBeside_65 (by decide) (by rw [mBes, bCol, bCol, bRow, bRow, if_pos c_1])
  · refine lv_iload hx hb dX7_isBeside_50 (lv_at hl 0 rfl) ?_
    refine lv_iconst (v := (-1)) hx hb dX7_isBeside_52 (by decide) ?_
    refine lv_iconst (v := 1) hx hb dX7_isBeside_53 (by decide) ?_
    refine rdS (As := [.int (((cAt 26 pl i) / 10) - ((cAt 26 pl j) / 10)), .int (-1), .int 1]) (rest := []) ⟨hx, hb, hml, hown, hts⟩ (c_X7_in l D z q (((cAt 26 pl i) / 10) - ((cAt 26 pl j) / 10)) (-1) 1) (va_cwS 3 hts gX7_isBeside_X7_in rfl rfl rfl hd_X7_in ⟨Nat.le_of_ble_eq_true rfl, Nat.le_of_ble_eq_true rfl⟩) hE hS hA hP [] rfl rfl hl.1 rfl (Nat.le_of_ble_eq_true rfl) dX7_isBeside_54 ⟨(Nat.le_of_ble_eq_true rfl), (Nat.le_of_ble_eq_true rfl)⟩ ?_
    refine lv_if_eq (tgt := 64) hx hb dX7_isBeside_57 (by decide) (fun c_2 => ?_) (fun c_2 => ?_)
    · refine lv_iconst (v := 0) hx hb dX7_isBeside_64 (by decide) ?_
      exact rd_z hx hb hr hlocks dX7_isBeside_65 (by decide) (by rw [mBes, bCol, bCol, bRow, bRow, if_neg c_1, if_pos c_2])
    · refine lv_iconst (v := 1) hx hb dX7_isBeside_60 (by decide) ?_
      refine lv_goto (tgt := 65) hx hb dX7_isBeside_61 (by decide) ?_
      exact rd_z hx hb hr hlocks dX7_isBeside_65 (by decide) (by rw [mBes, bCol, bCol, bRow, bRow, if_neg c_1, if_neg c_2])
set_option maxRecDepth 20000 in
theorem in_X7_mirrorOf_X7 : ∀ w ∈ wsX70, w ∈ wsX7_mirrorOf := mem_r _ [2, 3, 4, 5, 6, 7, 8, 9, 10, 11, 12, 13, 14, 15, 16, 17, 18, 19, 20, 21] (by decide +kernel)
theorem hd_X7_mirrorOf : yX7_mirrorOf.cls = RX7 ∧ yX7_mirrorOf.cls ≠ "java/lang/invoke/MethodHandle" ∧ yX7_mirrorOf.cls ≠ "java/lang/invoke/VarHandle" ∧ (parseMethodDescriptor yX7_mirrorOf.desc).map (fun d => d.parameters.length) = some 1 := by decide +kernel
set_option maxHeartbeats 4000000 in
set_option maxRecDepth 100000 in
theorem c_X7_mirrorOf (l : Launch) (D : va_G) (z : Nat → ClassId) (q : Nat → Nat) (mx : Nat) (th : Int32) (m1 : Nat) (m2 : Nat) (m3 : Nat) (m4 : Nat) (m5 : Nat) (m6 : Nat) (m7 : Nat) (m8 : Nat) (m9 : Nat) (m10 : Nat) (m11 : Nat) (pl : Nat → Int32) (ct : Nat → Int32) (ti : Nat → Int32) (sh : Nat → Int32) (ia : Nat → Int32) (pr : Nat → Int32) (lt : Nat → Int32) (ty : Nat → Int32) (zz : Int32) (po : Int32) (ml : Int32) (me : Int32) (ek : Nat → Int32) (ef : Nat → Int32) (wt : Int32) (wh : Int32) (sn : Int32) (kp : Nat → Int32) (dy : Int32) (i : Int32) (hi : vp_in i 26) : RD l yX7_mirrorOf wsX7_mirrorOf ({ frames := 0, cells := 0, slots := 0, locals := 0 } : Room) D z q [.ref mx, .int i] [(mx, .inr (7, [.int th, .ref m1, .ref m2, .ref m3, .ref m4, .ref m5, .ref m6, .ref m7, .ref m8, .int zz, .int po, .int ml, .int me, .ref m9, .ref m10, .int wt, .int wh, .int sn, .ref m11, .int dy])), (m1, .inl (z 0, 26, .inl pl)), (m2, .inl (z 0, 26, .inl ct)), (m3, .inl (z 0, 26, .inl ti)), (m4, .inl (z 0, 26, .inl sh)), (m5, .inl (z 1, 26, .inl ia)), (m6, .inl (z 0, 676, .inl pr)), (m7, .inl (z 0, 40, .inl lt)), (m8, .inl (z 0, 40, .inl ty)), (m9, .inl (z 0, 5, .inl ek)), (m10, .inl (z 0, 8, .inl ef)), (m11, .inl (z 0, 100, .inl kp))] (some (.int (mMir pl i))) := by
  refine RD_mk (cc := cX7_mirrorOf) (maxL := 2) (ret := (some .int)) (by decide) rfl (Nat.le_of_ble_eq_true rfl) ?_
  intro p e s m below meth c hx hb hr hml hts hown hlocks hP hE hS hA ls hl
  have hK := hE.1
  have hown : s.vm.findClass RX7 = some m.cls := hown
  have hl : lv_has ls 2 [(0, .ref mx), (1, .int i)] := hl
  refine lv_aload_n hx hb dX7_mirrorOf_0 rfl (lv_at hl 0 rfl) ?_
  refine va_get (D := D) (ci := 7) (v := .ref m1) (C := RX7) (T := TX7) (N := 20) hx hb hts in_X7_mirrorOf_X7 hown hK hP 0 rfl rfl 1 (by decide) (hts (.fieldLink RX7 7 "TypingCoachModel" "places" "[I") (List.mem_of_getElem? (i := 1) rfl)) (fun _ h9 => h9) rfl dX7_mirrorOf_1 ?_
  refine lv_iload_n hx hb dX7_mirrorOf_4 rfl (lv_at hl 1 rfl) ?_
  refine mIald hx hb hK hP 1 0 rfl rfl (Nat.le_of_ble_eq_true rfl) hi dX7_mirrorOf_5 ?_
  refine lv_bipush (v := 10) hx hb dX7_mirrorOf_6 (by decide) ?_
  refine lv_idiv hx hb dX7_mirrorOf_8 (by decide) ?_
  refine lv_bipush (v := 10) hx hb dX7_mirrorOf_9 (by decide) ?_
  refine lv_imul hx hb dX7_mirrorOf_11 ?_
  refine lv_bipush (v := 10) hx hb dX7_mirrorOf_12 (by decide) ?_
  refine lv_iadd hx hb dX7_mirrorOf_14 ?_
  refine lv_iconst (v := 1) hx hb dX7_mirrorOf_15 (by decide) ?_
  refine lv_isub hx hb dX7_mirrorOf_16 ?_
  refine lv_aload_n hx hb dX7_mirrorOf_17 rfl (lv_at hl 0 rfl) ?_
  refine va_get (D := D) (ci := 7) (v := .ref m1) (C := RX7) (T := TX7) (N := 20) hx hb hts in_X7_mirrorOf_X7 hown hK hP 0 rfl rfl 1 (by decide) (hts (.fieldLink RX7 7 "TypingCoachModel" "places" "[I") (List.mem_of_getElem? (i := 1) rfl)) (fun _ h9 => h9) rfl dX7_mirrorOf_18 ?_
  refine lv_iload_n hx hb dX7_mirrorOf_21 rfl (lv_at hl 1 rfl) ?_
  refine mIald hx hb hK hP 1 0 rfl rfl (Nat.le_of_ble_eq_true rfl) hi dX7_mirrorOf_22 ?_
  refine lv_bipush (v := 10) hx hb dX7_mirrorOf_23 (by decide) ?_
  refine lv_irem hx hb dX7_mirrorOf_25 (by decide) ?_
  refine lv_isub hx hb dX7_mirrorOf_26 ?_
  exact rd_i hx hb hr hlocks dX7_mirrorOf_27 (rfl)
set_option maxRecDepth 20000 in
theorem in_X7_wants_X7 : ∀ w ∈ wsX70, w ∈ wsX7_wants := mem_r _ [3, 4, 5, 6, 7, 8, 9, 10, 11, 12, 13, 14, 15, 16, 17, 18, 19, 20, 21, 22] (by decide +kernel)
theorem hd_X7_wants : yX7_wants.cls = RX7 ∧ yX7_wants.cls ≠ "java/lang/invoke/MethodHandle" ∧ yX7_wants.cls ≠ "java/lang/invoke/VarHandle" ∧ (parseMethodDescriptor yX7_wants.desc).map (fun d => d.parameters.length) = some 1 := by decide +kernel
set_option maxHeartbeats 4000000 in
set_option maxRecDepth 100000 in
theorem c_X7_wants (l : Launch) (D : va_G) (z : Nat → ClassId) (q : Nat → Nat) (mx : Nat) (th : Int32) (m1 : Nat) (m2 : Nat) (m3 : Nat) (m4 : Nat) (m5 : Nat) (m6 : Nat) (m7 : Nat) (m8 : Nat) (m9 : Nat) (m10 : Nat) (m11 : Nat) (pl : Nat → Int32) (ct : Nat → Int32) (ti : Nat → Int32) (sh : Nat → Int32) (ia : Nat → Int32) (pr : Nat → Int32) (lt : Nat → Int32) (ty : Nat → Int32) (zz : Int32) (po : Int32) (ml : Int32) (me : Int32) (ek : Nat → Int32) (ef : Nat → Int32) (wt : Int32) (wh : Int32) (sn : Int32) (kp : Nat → Int32) (dy : Int32) (i : Int32) (sz : Nat) (hzi : vp_in zz 40) : WR l yX7_wants wsX7_wants ({ frames := 0, cells := 0, slots := 0, locals := 0 } : Room) D z q [.ref mx, .int i] [(mx, .inr (7, [.int th, .ref m1, .ref m2, .ref m3, .ref m4, .ref m5, .ref m6, .ref m7, .ref m8, .int zz, .int po, .int ml, .int me, .ref m9, .ref m10, .int wt, .int wh, .int sn, .ref m11, .int dy])), (m1, .inl (z 0, 26, .inl pl)), (m2, .inl (z 0, 26, .inl ct)), (m3, .inl (z 0, 26, .inl ti)), (m4, .inl (z 0, 26, .inl sh)), (m5, .inl (z 1, 26, .inl ia)), (m6, .inl (z 0, 676, .inl pr)), (m7, .inl (z 0, 40, .inl lt)), (m8, .inl (z 0, 40, .inl ty)), (m9, .inl (z 0, 5, .inl ek)), (m10, .inl (z 0, 8, .inl ef)), (m11, .inl (z 0, 100, .inl kp))] sz [(mx, .inr (7, [.int th, .ref m1, .ref m2, .ref m3, .ref m4, .ref m5, .ref m6, .ref m7, .ref m8, .int (zz + 1), .int po, .int ml, .int me, .ref m9, .ref m10, .int wt, .int wh, .int sn, .ref m11, .int dy])), (m1, .inl (z 0, 26, .inl pl)), (m2, .inl (z 0, 26, .inl ct)), (m3, .inl (z 0, 26, .inl ti)), (m4, .inl (z 0, 26, .inl sh)), (m5, .inl (z 1, 26, .inl ia)), (m6, .inl (z 0, 676, .inl pr)), (m7, .inl (z 0, 40, .inl (cSet 40 lt zz i))), (m8, .inl (z 0, 40, .inl ty)), (m9, .inl (z 0, 5, .inl ek)), (m10, .inl (z 0, 8, .inl ef)), (m11, .inl (z 0, 100, .inl kp))] none := by
  refine WR_mk (Qc := fun A => QW D [(mx, .inr (7, [.int th, .ref m1, .ref m2, .ref m3, .ref m4, .ref m5, .ref m6, .ref m7, .ref m8, .int (zz + 1), .int po, .int ml, .int me, .ref m9, .ref m10, .int wt, .int wh, .int sn, .ref m11, .int dy])), (m1, .inl (z 0, 26, .inl pl)), (m2, .inl (z 0, 26, .inl ct)), (m3, .inl (z 0, 26, .inl ti)), (m4, .inl (z 0, 26, .inl sh)), (m5, .inl (z 1, 26, .inl ia)), (m6, .inl (z 0, 676, .inl pr)), (m7, .inl (z 0, 40, .inl (cSet 40 lt zz i))), (m8, .inl (z 0, 40, .inl ty)), (m9, .inl (z 0, 5, .inl ek)), (m10, .inl (z 0, 8, .inl ef)), (m11, .inl (z 0, 100, .inl kp))] A none) (cc := cX7_wants) (maxL := 2) (ret := none) (by decide) rfl (Nat.le_of_ble_eq_true rfl) ?_
  intro p e s m below meth c A hx hb hr hml hts hown hlocks hin0 H hP hD hE hS hA ls hl
  have hK := hE.1
  have hown : s.vm.findClass RX7 = some m.cls := hown
  have hl : lv_has ls 2 [(0, .ref mx), (1, .int i)] := hl
  refine lv_aload_n hx hb dX7_wants_0 rfl (lv_at hl 0 rfl) ?_
  refine va_get (D := D) (ci := 7) (v := .ref m7) (C := RX7) (T := TX7) (N := 20) hx hb hts in_X7_wants_X7 hown hK hP 0 rfl rfl 7 (by decide) (hts (.fieldLink RX7 29 "TypingCoachModel" "wanted" "[I") (List.mem_of_getElem? (i := 1) rfl)) (fun _ h9 => h9) rfl dX7_wants_1 ?_
  refine lv_aload_n hx hb dX7_wants_4 rfl (lv_at hl 0 rfl) ?_
  refine va_get (D := D) (ci := 7) (v := .int zz) (C := RX7) (T := TX7) (N := 20) hx hb hts in_X7_wants_X7 hown hK hP 0 rfl rfl 9 (by decide) (hts (.fieldLink RX7 79 "TypingCoachModel" "many" "I") (List.mem_of_getElem? (i := 2) rfl)) (fun _ h9 => h9) rfl dX7_wants_5 ?_
  refine lv_iload_n hx hb dX7_wants_8 rfl (lv_at hl 1 rfl) ?_
  refine mIast hx hb hK hP hD hS 7 0 rfl rfl (Nat.le_of_ble_eq_true rfl) hzi dX7_wants_9 (fun H locs hP hD hS => ?_)
  have hP : va_P D vwCl [(mx, .inr (7, [.int th, .ref m1, .ref m2, .ref m3, .ref m4, .ref m5, .ref m6, .ref m7, .ref m8, .int zz, .int po, .int ml, .int me, .ref m9, .ref m10, .int wt, .int wh, .int sn, .ref m11, .int dy])), (m1, .inl (z 0, 26, .inl pl)), (m2, .inl (z 0, 26, .inl ct)), (m3, .inl (z 0, 26, .inl ti)), (m4, .inl (z 0, 26, .inl sh)), (m5, .inl (z 1, 26, .inl ia)), (m6, .inl (z 0, 676, .inl pr)), (m7, .inl (z 0, 40, .inl (cSet 40 lt zz i))), (m8, .inl (z 0, 40, .inl ty)), (m9, .inl (z 0, 5, .inl ek)), (m10, .inl (z 0, 8, .inl ef)), (m11, .inl (z 0, 100, .inl kp))] H := hP
  have hD : va_D A [(mx, .inr (7, [.int th, .ref m1, .ref m2, .ref m3, .ref m4, .ref m5, .ref m6, .ref m7, .ref m8, .int zz, .int po, .int ml, .int me, .ref m9, .ref m10, .int wt, .int wh, .int sn, .ref m11, .int dy])), (m1, .inl (z 0, 26, .inl pl)), (m2, .inl (z 0, 26, .inl ct)), (m3, .inl (z 0, 26, .inl ti)), (m4, .inl (z 0, 26, .inl sh)), (m5, .inl (z 1, 26, .inl ia)), (m6, .inl (z 0, 676, .inl pr)), (m7, .inl (z 0, 40, .inl (cSet 40 lt zz i))), (m8, .inl (z 0, 40, .inl ty)), (m9, .inl (z 0, 5, .inl ek)), (m10, .inl (z 0, 8, .inl ef)), (m11, .inl (z 0, 100, .inl kp))] := hD
  refine lv_aload_n hx hb dX7_wants_10 rfl (lv_at hl 0 rfl) ?_
  refine lv_dup hx hb dX7_wants_11 rfl ?_
  refine va_get (D := D) (ci := 7) (v := .int zz) (C := RX7) (T := TX7) (N := 20) hx hb hts in_X7_wants_X7 hown hK hP 0 rfl rfl 9 (by decide) (hts (.fieldLink RX7 79 "TypingCoachModel" "many" "I") (List.mem_of_getElem? (i := 2) rfl)) (fun _ h9 => h9) rfl dX7_wants_12 ?_
  refine lv_iconst (v := 1) hx hb dX7_wants_15 (by decide) ?_
  refine lv_iadd hx hb dX7_wants_16 ?_
  refine va_put (D := D) (ci := 7) (v := .int (zz + 1)) (ty := .int) (C := RX7) (T := TX7) (N := 20) hx hb hts in_X7_wants_X7 tyX7 tyX7_ok nmX7 hown hK hP hD hS 0 rfl rfl 9 (by decide) (hts (.fieldLink RX7 79 "TypingCoachModel" "many" "I") (List.mem_of_getElem? (i := 2) rfl)) (fun _ h9 => h9) rfl (by decide +kernel) rfl rfl (Nat.le_of_ble_eq_true rfl) dX7_wants_17 (fun H locs hP hD hS => ?_)
  have hP : va_P D vwCl [(mx, .inr (7, [.int th, .ref m1, .ref m2, .ref m3, .ref m4, .ref m5, .ref m6, .ref m7, .ref m8, .int (zz + 1), .int po, .int ml, .int me, .ref m9, .ref m10, .int wt, .int wh, .int sn, .ref m11, .int dy])), (m1, .inl (z 0, 26, .inl pl)), (m2, .inl (z 0, 26, .inl ct)), (m3, .inl (z 0, 26, .inl ti)), (m4, .inl (z 0, 26, .inl sh)), (m5, .inl (z 1, 26, .inl ia)), (m6, .inl (z 0, 676, .inl pr)), (m7, .inl (z 0, 40, .inl (cSet 40 lt zz i))), (m8, .inl (z 0, 40, .inl ty)), (m9, .inl (z 0, 5, .inl ek)), (m10, .inl (z 0, 8, .inl ef)), (m11, .inl (z 0, 100, .inl kp))] H := hP
  have hD : va_D A [(mx, .inr (7, [.int th, .ref m1, .ref m2, .ref m3, .ref m4, .ref m5, .ref m6, .ref m7, .ref m8, .int (zz + 1), .int po, .int ml, .int me, .ref m9, .ref m10, .int wt, .int wh, .int sn, .ref m11, .int dy])), (m1, .inl (z 0, 26, .inl pl)), (m2, .inl (z 0, 26, .inl ct)), (m3, .inl (z 0, 26, .inl ti)), (m4, .inl (z 0, 26, .inl sh)), (m5, .inl (z 1, 26, .inl ia)), (m6, .inl (z 0, 676, .inl pr)), (m7, .inl (z 0, 40, .inl (cSet 40 lt zz i))), (m8, .inl (z 0, 40, .inl ty)), (m9, .inl (z 0, 5, .inl ek)), (m10, .inl (z 0, 8, .inl ef)), (m11, .inl (z 0, 100, .inl kp))] := hD
  exact wr_v hx hb hr hlocks hP hD hS dX7_wants_20 (rfl) (Nat.le_refl _) (Nat.le_refl _)
set_option maxRecDepth 20000 in
theorem in_X7_weakestOf_X7 : ∀ w ∈ wsX70, w ∈ wsX7_weakestOf := mem_r _ [4, 5, 6, 7, 8, 9, 10, 11, 12, 13, 14, 15, 16, 17, 18, 19, 20, 21, 22, 23] (by decide +kernel)
theorem hd_X7_weakestOf : yX7_weakestOf.cls = RX7 ∧ yX7_weakestOf.cls ≠ "java/lang/invoke/MethodHandle" ∧ yX7_weakestOf.cls ≠ "java/lang/invoke/VarHandle" ∧ (parseMethodDescriptor yX7_weakestOf.desc).map (fun d => d.parameters.length) = some 0 := by decide +kernel
set_option maxHeartbeats 4000000 in
set_option maxRecDepth 100000 in
theorem c_X7_weakestOf (l : Launch) (D : va_G) (z : Nat → ClassId) (q : Nat → Nat) (mx : Nat) (th : Int32) (m1 : Nat) (m2 : Nat) (m3 : Nat) (m4 : Nat) (m5 : Nat) (m6 : Nat) (m7 : Nat) (m8 : Nat) (m9 : Nat) (m10 : Nat) (m11 : Nat) (pl : Nat → Int32) (ct : Nat → Int32) (ti : Nat → Int32) (sh : Nat → Int32) (ia : Nat → Int32) (pr : Nat → Int32) (lt : Nat → Int32) (ty : Nat → Int32) (zz : Int32) (po : Int32) (ml : Int32) (me : Int32) (ek : Nat → Int32) (ef : Nat → Int32) (wt : Int32) (wh : Int32) (sn : Int32) (kp : Nat → Int32) (dy : Int32)  : RD l yX7_weakestOf wsX7_weakestOf ({ frames := 0, cells := 0, slots := 0, locals := 0 } : Room) D z q [.ref mx] [(mx, .inr (7, [.int th, .ref m1, .ref m2, .ref m3, .ref m4, .ref m5, .ref m6, .ref m7, .ref m8, .int zz, .int po, .int ml, .int me, .ref m9, .ref m10, .int wt, .int wh, .int sn, .ref m11, .int dy])), (m1, .inl (z 0, 26, .inl pl)), (m2, .inl (z 0, 26, .inl ct)), (m3, .inl (z 0, 26, .inl ti)), (m4, .inl (z 0, 26, .inl sh)), (m5, .inl (z 1, 26, .inl ia)), (m6, .inl (z 0, 676, .inl pr)), (m7, .inl (z 0, 40, .inl lt)), (m8, .inl (z 0, 40, .inl ty)), (m9, .inl (z 0, 5, .inl ek)), (m10, .inl (z 0, 8, .inl ef)), (m11, .inl (z 0, 100, .inl kp))] (some (.int (lWk ia ti sh 25))) := by
  refine RD_mk (cc := cX7_weakestOf) (maxL := 4) (ret := (some .int)) (by decide) rfl (Nat.le_of_ble_eq_true rfl) ?_
  intro p e s m below meth c hx hb hr hml hts hown hlocks hP hE hS hA ls hl
  have hK := hE.1
  have hown : s.vm.findClass RX7 = some m.cls := hown
  have hl : lv_has ls 4 [(0, .ref mx)] := hl
  refine lv_iconst (v := 0) hx hb dX7_weakestOf_0 (by decide) ?_
  refine lv_istore_n (lv' := [(1, .int 0), (0, .ref mx)]) hx hb dX7_weakestOf_1 rfl hl (by decide) rfl (fun ls hl => ?_)
  refine lv_iconst (v := 1) hx hb dX7_weakestOf_2 (by decide) ?_
  refine lv_istore_n (lv' := [(2, .int 1), (1, .int 0), (0, .ref mx)]) hx hb dX7_weakestOf_3 rfl hl (by decide) rfl (fun ls hl => ?_)
  have loop_1 : ∀ (n : Nat) (j : Nat) (x : Int32), j ≤ 25 → 25 < j + n → x = lWk ia ti sh j → vp_in x 26 → ∀ ls : Array Slot, lv_has ls 4 [(2, .int (nI (j + 1))), (1, .int x), (0, .ref mx)] → W p l e ({ frames := 0, cells := 0, slots := 0, locals := 0 } : Room) s m ([.ref mx] : List Value).toArray below meth c s.heap [] 0 0 (MQ below (QR (some (.int (lWk ia ti sh 25)))) ([.ref mx] : List Value).toArray s 0 0 (fun _ => False)) (F0 m 4 ls []) := by
    intro n
    induction n with
    | zero => intro j x hj hf hxj hxi; exact absurd hf (by omega)
    | succ n ih =>
      intro j x hj hf hxj hxi ls hl
      refine lv_iload_n hx hb dX7_weakestOf_4 rfl (lv_at hl 0 rfl) ?_
      refine lv_bipush (v := 26) hx hb dX7_weakestOf_5 (by decide) ?_
      refine lv_icmp_ge (tgt := 86) hx hb dX7_weakestOf_7 (by decide) (fun c_2 => ?_) (fun c_2 => ?_)
      · have hj2 : j = 25 := by have := lpx (n := 26) c_2 (by omega) (Nat.le_of_ble_eq_true rfl) rfl; omega
        refine lv_iload_n hx hb dX7_weakestOf_86 rfl (lv_at hl 1 rfl) ?_
        exact rd_i hx hb hr hlocks dX7_weakestOf_87 (by rw [hxj, hj2])
      · have hjl : j < 25 := by have := lpn (n := 26) c_2 (by omega) (Nat.le_of_ble_eq_true rfl) rfl; omega
        refine lv_aload_n hx hb dX7_weakestOf_10 rfl (lv_at hl 2 rfl) ?_
        refine va_get (D := D) (ci := 7) (v := .ref m4) (C := RX7) (T := TX7) (N := 20) hx hb hts in_X7_weakestOf_X7 hown hK hP 0 rfl rfl 4 (by decide) (hts (.fieldLink RX7 19 "TypingCoachModel" "shares" "[I") (List.mem_of_getElem? (i := 1) rfl)) (fun _ h9 => h9) rfl dX7_weakestOf_11 ?_
        refine lv_iload_n hx hb dX7_weakestOf_14 rfl (lv_at hl 0 rfl) ?_
        refine mIald hx hb hK hP 4 0 rfl rfl (Nat.le_of_ble_eq_true rfl) (vp_in_nI (by omega) (Nat.le_of_ble_eq_true rfl)) dX7_weakestOf_15 ?_
        refine lv_aload_n hx hb dX7_weakestOf_16 rfl (lv_at hl 2 rfl) ?_
        refine va_get (D := D) (ci := 7) (v := .ref m4) (C := RX7) (T := TX7) (N := 20) hx hb hts in_X7_weakestOf_X7 hown hK hP 0 rfl rfl 4 (by decide) (hts (.fieldLink RX7 19 "TypingCoachModel" "shares" "[I") (List.mem_of_getElem? (i := 1) rfl)) (fun _ h9 => h9) rfl dX7_weakestOf_17 ?_
        refine lv_iload_n hx hb dX7_weakestOf_20 rfl (lv_at hl 1 rfl) ?_
        refine mIald hx hb hK hP 4 0 rfl rfl (Nat.le_of_ble_eq_true rfl) hxi dX7_weakestOf_21 ?_
        refine lv_icmp_gt (tgt := 55) hx hb dX7_weakestOf_22 (by decide) (fun c_3 => ?_) (fun c_3 => ?_)
        · refine lv_iconst (v := 1) hx hb dX7_weakestOf_55 (by decide) ?_
          refine lv_goto (tgt := 60) hx hb dX7_weakestOf_56 (by decide) ?_
          refine lv_istore_n (lv' := [(3, .int 1), (2, .int (nI (j + 1))), (1, .int x), (0, .ref mx)]) hx hb dX7_weakestOf_60 rfl hl (by decide) rfl (fun ls hl => ?_)
          refine lv_aload_n hx hb dX7_weakestOf_61 rfl (lv_at hl 3 rfl) ?_
          refine va_get (D := D) (ci := 7) (v := .ref m5) (C := RX7) (T := TX7) (N := 20) hx hb hts in_X7_weakestOf_X7 hown hK hP 0 rfl rfl 5 (by decide) (hts (.fieldLink RX7 22 "TypingCoachModel" "areIn" "[Z") (List.mem_of_getElem? (i := 3) rfl)) (fun _ h9 => h9) rfl dX7_weakestOf_62 ?_
          refine lv_iload_n hx hb dX7_weakestOf_65 rfl (lv_at hl 1 rfl) ?_
          refine va_zald hx hb hK hP 5 1 rfl rfl (vp_in_nI (by omega) (Nat.le_of_ble_eq_true rfl)) dX7_weakestOf_66 ?_
          refine lv_if_eq (tgt := 78) hx hb dX7_weakestOf_67 (by decide) (fun c_4 => ?_) (fun c_4 => ?_)
          · refine lv_iload_n hx hb dX7_weakestOf_78 rfl (lv_at hl 2 rfl) ?_
            refine lv_istore_n (lv' := [(1, .int x), (3, .int 1), (2, .int (nI (j + 1))), (0, .ref mx)]) hx hb dX7_weakestOf_79 rfl hl (by decide) rfl (fun ls hl => ?_)
            refine lv_iinc (v := nI (j + 1 + 1)) (lv' := [(2, .int (nI (j + 1 + 1))), (1, .int x), (3, .int 1), (0, .ref mx)]) hx hb dX7_weakestOf_80 hl (k := 2) rfl (nI_1 _) (by decide) rfl (fun ls hl => ?_)
            refine lv_goto (tgt := 4) hx hb dX7_weakestOf_83 (by decide) ?_
            exact ih (j + 1) x (by omega) (by omega) (hxj.trans (lWk_0 ((zin (vp_in_nI (by omega) (Nat.le_of_ble_eq_true rfl))).mp c_4))) hxi ls (lv_sub hl [0, 1, 3] rfl)
          · refine lv_iload_n hx hb dX7_weakestOf_70 rfl (lv_at hl 0 rfl) ?_
            refine lv_if_eq (tgt := 78) hx hb dX7_weakestOf_71 (by decide) (fun c_6 => absurd c_6 (by decide)) (fun _ => ?_)
            refine lv_iload_n hx hb dX7_weakestOf_74 rfl (lv_at hl 1 rfl) ?_
            refine lv_goto (tgt := 79) hx hb dX7_weakestOf_75 (by decide) ?_
            refine lv_istore_n (lv' := [(1, .int (nI (j + 1))), (3, .int 1), (2, .int (nI (j + 1))), (0, .ref mx)]) hx hb dX7_weakestOf_79 rfl hl (by decide) rfl (fun ls hl => ?_)
            refine lv_iinc (v := nI (j + 1 + 1)) (lv' := [(2, .int (nI (j + 1 + 1))), (1, .int (nI (j + 1))), (3, .int 1), (0, .ref mx)]) hx hb dX7_weakestOf_80 hl (k := 2) rfl (nI_1 _) (by decide) rfl (fun ls hl => ?_)
            refine lv_goto (tgt := 4) hx hb dX7_weakestOf_83 (by decide) ?_
            exact ih (j + 1) (nI (j + 1)) (by omega) (by omega) (lWk_t (fun h9 => c_4 ((zin (vp_in_nI (by omega) (Nat.le_of_ble_eq_true rfl))).mpr h9)) (by rw [← hxj]; exact fWeak_1 c_3)) (vp_in_nI (by omega) (Nat.le_of_ble_eq_true rfl)) ls (lv_sub hl [0, 1, 3] rfl)
        · refine lv_aload_n hx hb dX7_weakestOf_25 rfl (lv_at hl 2 rfl) ?_
          refine va_get (D := D) (ci := 7) (v := .ref m4) (C := RX7) (T := TX7) (N := 20) hx hb hts in_X7_weakestOf_X7 hown hK hP 0 rfl rfl 4 (by decide) (hts (.fieldLink RX7 19 "TypingCoachModel" "shares" "[I") (List.mem_of_getElem? (i := 1) rfl)) (fun _ h9 => h9) rfl dX7_weakestOf_26 ?_
          refine lv_iload_n hx hb dX7_weakestOf_29 rfl (lv_at hl 0 rfl) ?_
          refine mIald hx hb hK hP 4 0 rfl rfl (Nat.le_of_ble_eq_true rfl) (vp_in_nI (by omega) (Nat.le_of_ble_eq_true rfl)) dX7_weakestOf_30 ?_
          refine lv_aload_n hx hb dX7_weakestOf_31 rfl (lv_at hl 2 rfl) ?_
          refine va_get (D := D) (ci := 7) (v := .ref m4) (C := RX7) (T := TX7) (N := 20) hx hb hts in_X7_weakestOf_X7 hown hK hP 0 rfl rfl 4 (by decide) (hts (.fieldLink RX7 19 "TypingCoachModel" "shares" "[I") (List.mem_of_getElem? (i := 1) rfl)) (fun _ h9 => h9) rfl dX7_weakestOf_32 ?_
          refine lv_iload_n hx hb dX7_weakestOf_35 rfl (lv_at hl 1 rfl) ?_
          refine mIald hx hb hK hP 4 0 rfl rfl (Nat.le_of_ble_eq_true rfl) hxi dX7_weakestOf_36 ?_
          refine lv_icmp_ne (tgt := 59) hx hb dX7_weakestOf_37 (by decide) (fun c_8 => ?_) (fun c_8 => ?_)
          · refine lv_iconst (v := 0) hx hb dX7_weakestOf_59 (by decide) ?_
            refine lv_istore_n (lv' := [(3, .int 0), (2, .int (nI (j + 1))), (1, .int x), (0, .ref mx)]) hx hb dX7_weakestOf_60 rfl hl (by decide) rfl (fun ls hl => ?_)
            refine lv_aload_n hx hb dX7_weakestOf_61 rfl (lv_at hl 3 rfl) ?_
            refine va_get (D := D) (ci := 7) (v := .ref m5) (C := RX7) (T := TX7) (N := 20) hx hb hts in_X7_weakestOf_X7 hown hK hP 0 rfl rfl 5 (by decide) (hts (.fieldLink RX7 22 "TypingCoachModel" "areIn" "[Z") (List.mem_of_getElem? (i := 3) rfl)) (fun _ h9 => h9) rfl dX7_weakestOf_62 ?_
            refine lv_iload_n hx hb dX7_weakestOf_65 rfl (lv_at hl 1 rfl) ?_
            refine va_zald hx hb hK hP 5 1 rfl rfl (vp_in_nI (by omega) (Nat.le_of_ble_eq_true rfl)) dX7_weakestOf_66 ?_
            refine lv_if_eq (tgt := 78) hx hb dX7_weakestOf_67 (by decide) (fun c_9 => ?_) (fun c_9 => ?_)
            · refine lv_iload_n hx hb dX7_weakestOf_78 rfl (lv_at hl 2 rfl) ?_
              refine lv_istore_n (lv' := [(1, .int x), (3, .int 0), (2, .int (nI (j + 1))), (0, .ref mx)]) hx hb dX7_weakestOf_79 rfl hl (by decide) rfl (fun ls hl => ?_)
              refine lv_iinc (v := nI (j + 1 + 1)) (lv' := [(2, .int (nI (j + 1 + 1))), (1, .int x), (3, .int 0), (0, .ref mx)]) hx hb dX7_weakestOf_80 hl (k := 2) rfl (nI_1 _) (by decide) rfl (fun ls hl => ?_)
              refine lv_goto (tgt := 4) hx hb dX7_weakestOf_83 (by decide) ?_
              exact ih (j + 1) x (by omega) (by omega) (hxj.trans (lWk_0 ((zin (vp_in_nI (by omega) (Nat.le_of_ble_eq_true rfl))).mp c_9))) hxi ls (lv_sub hl [0, 1, 3] rfl)
            · refine lv_iload_n hx hb dX7_weakestOf_70 rfl (lv_at hl 0 rfl) ?_
              refine lv_if_eq (tgt := 78) hx hb dX7_weakestOf_71 (by decide) (fun _ => ?_) (fun c_11 => absurd (by decide) c_11)
              refine lv_iload_n hx hb dX7_weakestOf_78 rfl (lv_at hl 2 rfl) ?_
              refine lv_istore_n (lv' := [(1, .int x), (3, .int 0), (2, .int (nI (j + 1))), (0, .ref mx)]) hx hb dX7_weakestOf_79 rfl hl (by decide) rfl (fun ls hl => ?_)
              refine lv_iinc (v := nI (j + 1 + 1)) (lv' := [(2, .int (nI (j + 1 + 1))), (1, .int x), (3, .int 0), (0, .ref mx)]) hx hb dX7_weakestOf_80 hl (k := 2) rfl (nI_1 _) (by decide) rfl (fun ls hl => ?_)
              refine lv_goto (tgt := 4) hx hb dX7_weakestOf_83 (by decide) ?_
              exact ih (j + 1) x (by omega) (by omega) (hxj.trans (lWk_f (by rw [← hxj]; exact fWeak_2 c_3 c_8))) hxi ls (lv_sub hl [0, 1, 3] rfl)
          · refine lv_aload_n hx hb dX7_weakestOf_40 rfl (lv_at hl 2 rfl) ?_
            refine va_get (D := D) (ci := 7) (v := .ref m3) (C := RX7) (T := TX7) (N := 20) hx hb hts in_X7_weakestOf_X7 hown hK hP 0 rfl rfl 3 (by decide) (hts (.fieldLink RX7 16 "TypingCoachModel" "times" "[I") (List.mem_of_getElem? (i := 2) rfl)) (fun _ h9 => h9) rfl dX7_weakestOf_41 ?_
            refine lv_iload_n hx hb dX7_weakestOf_44 rfl (lv_at hl 0 rfl) ?_
            refine mIald hx hb hK hP 3 0 rfl rfl (Nat.le_of_ble_eq_true rfl) (vp_in_nI (by omega) (Nat.le_of_ble_eq_true rfl)) dX7_weakestOf_45 ?_
            refine lv_aload_n hx hb dX7_weakestOf_46 rfl (lv_at hl 2 rfl) ?_
            refine va_get (D := D) (ci := 7) (v := .ref m3) (C := RX7) (T := TX7) (N := 20) hx hb hts in_X7_weakestOf_X7 hown hK hP 0 rfl rfl 3 (by decide) (hts (.fieldLink RX7 16 "TypingCoachModel" "times" "[I") (List.mem_of_getElem? (i := 2) rfl)) (fun _ h9 => h9) rfl dX7_weakestOf_47 ?_
            refine lv_iload_n hx hb dX7_weakestOf_50 rfl (lv_at hl 1 rfl) ?_
            refine mIald hx hb hK hP 3 0 rfl rfl (Nat.le_of_ble_eq_true rfl) hxi dX7_weakestOf_51 ?_
            refine lv_icmp_le (tgt := 59) hx hb dX7_weakestOf_52 (by decide) (fun c_13 => ?_) (fun c_13 => ?_)
            · refine lv_iconst (v := 0) hx hb dX7_weakestOf_59 (by decide) ?_
              refine lv_istore_n (lv' := [(3, .int 0), (2, .int (nI (j + 1))), (1, .int x), (0, .ref mx)]) hx hb dX7_weakestOf_60 rfl hl (by decide) rfl (fun ls hl => ?_)
              refine lv_aload_n hx hb dX7_weakestOf_61 rfl (lv_at hl 3 rfl) ?_
              refine va_get (D := D) (ci := 7) (v := .ref m5) (C := RX7) (T := TX7) (N := 20) hx hb hts in_X7_weakestOf_X7 hown hK hP 0 rfl rfl 5 (by decide) (hts (.fieldLink RX7 22 "TypingCoachModel" "areIn" "[Z") (List.mem_of_getElem? (i := 3) rfl)) (fun _ h9 => h9) rfl dX7_weakestOf_62 ?_
              refine lv_iload_n hx hb dX7_weakestOf_65 rfl (lv_at hl 1 rfl) ?_
              refine va_zald hx hb hK hP 5 1 rfl rfl (vp_in_nI (by omega) (Nat.le_of_ble_eq_true rfl)) dX7_weakestOf_66 ?_
              refine lv_if_eq (tgt := 78) hx hb dX7_weakestOf_67 (by decide) (fun c_14 => ?_) (fun c_14 => ?_)
              · refine lv_iload_n hx hb dX7_weakestOf_78 rfl (lv_at hl 2 rfl) ?_
                refine lv_istore_n (lv' := [(1, .int x), (3, .int 0), (2, .int (nI (j + 1))), (0, .ref mx)]) hx hb dX7_weakestOf_79 rfl hl (by decide) rfl (fun ls hl => ?_)
                refine lv_iinc (v := nI (j + 1 + 1)) (lv' := [(2, .int (nI (j + 1 + 1))), (1, .int x), (3, .int 0), (0, .ref mx)]) hx hb dX7_weakestOf_80 hl (k := 2) rfl (nI_1 _) (by decide) rfl (fun ls hl => ?_)
                refine lv_goto (tgt := 4) hx hb dX7_weakestOf_83 (by decide) ?_
                exact ih (j + 1) x (by omega) (by omega) (hxj.trans (lWk_0 ((zin (vp_in_nI (by omega) (Nat.le_of_ble_eq_true rfl))).mp c_14))) hxi ls (lv_sub hl [0, 1, 3] rfl)
              · refine lv_iload_n hx hb dX7_weakestOf_70 rfl (lv_at hl 0 rfl) ?_
                refine lv_if_eq (tgt := 78) hx hb dX7_weakestOf_71 (by decide) (fun _ => ?_) (fun c_16 => absurd (by decide) c_16)
                refine lv_iload_n hx hb dX7_weakestOf_78 rfl (lv_at hl 2 rfl) ?_
                refine lv_istore_n (lv' := [(1, .int x), (3, .int 0), (2, .int (nI (j + 1))), (0, .ref mx)]) hx hb dX7_weakestOf_79 rfl hl (by decide) rfl (fun ls hl => ?_)
                refine lv_iinc (v := nI (j + 1 + 1)) (lv' := [(2, .int (nI (j + 1 + 1))), (1, .int x), (3, .int 0), (0, .ref mx)]) hx hb dX7_weakestOf_80 hl (k := 2) rfl (nI_1 _) (by decide) rfl (fun ls hl => ?_)
                refine lv_goto (tgt := 4) hx hb dX7_weakestOf_83 (by decide) ?_
                exact ih (j + 1) x (by omega) (by omega) (hxj.trans (lWk_f (by rw [← hxj]; exact fWeak_3 c_8 c_13))) hxi ls (lv_sub hl [0, 1, 3] rfl)
            · refine lv_iconst (v := 1) hx hb dX7_weakestOf_55 (by decide) ?_
              refine lv_goto (tgt := 60) hx hb dX7_weakestOf_56 (by decide) ?_
              refine lv_istore_n (lv' := [(3, .int 1), (2, .int (nI (j + 1))), (1, .int x), (0, .ref mx)]) hx hb dX7_weakestOf_60 rfl hl (by decide) rfl (fun ls hl => ?_)
              refine lv_aload_n hx hb dX7_weakestOf_61 rfl (lv_at hl 3 rfl) ?_
              refine va_get (D := D) (ci := 7) (v := .ref m5) (C := RX7) (T := TX7) (N := 20) hx hb hts in_X7_weakestOf_X7 hown hK hP 0 rfl rfl 5 (by decide) (hts (.fieldLink RX7 22 "TypingCoachModel" "areIn" "[Z") (List.mem_of_getElem? (i := 3) rfl)) (fun _ h9 => h9) rfl dX7_weakestOf_62 ?_
              refine lv_iload_n hx hb dX7_weakestOf_65 rfl (lv_at hl 1 rfl) ?_
              refine va_zald hx hb hK hP 5 1 rfl rfl (vp_in_nI (by omega) (Nat.le_of_ble_eq_true rfl)) dX7_weakestOf_66 ?_
              refine lv_if_eq (tgt := 78) hx hb dX7_weakestOf_67 (by decide) (fun c_18 => ?_) (fun c_18 => ?_)
              · refine lv_iload_n hx hb dX7_weakestOf_78 rfl (lv_at hl 2 rfl) ?_
                refine lv_istore_n (lv' := [(1, .int x), (3, .int 1), (2, .int (nI (j + 1))), (0, .ref mx)]) hx hb dX7_weakestOf_79 rfl hl (by decide) rfl (fun ls hl => ?_)
                refine lv_iinc (v := nI (j + 1 + 1)) (lv' := [(2, .int (nI (j + 1 + 1))), (1, .int x), (3, .int 1), (0, .ref mx)]) hx hb dX7_weakestOf_80 hl (k := 2) rfl (nI_1 _) (by decide) rfl (fun ls hl => ?_)
                refine lv_goto (tgt := 4) hx hb dX7_weakestOf_83 (by decide) ?_
                exact ih (j + 1) x (by omega) (by omega) (hxj.trans (lWk_0 ((zin (vp_in_nI (by omega) (Nat.le_of_ble_eq_true rfl))).mp c_18))) hxi ls (lv_sub hl [0, 1, 3] rfl)
              · refine lv_iload_n hx hb dX7_weakestOf_70 rfl (lv_at hl 0 rfl) ?_
                refine lv_if_eq (tgt := 78) hx hb dX7_weakestOf_71 (by decide) (fun c_20 => absurd c_20 (by decide)) (fun _ => ?_)
                refine lv_iload_n hx hb dX7_weakestOf_74 rfl (lv_at hl 1 rfl) ?_
                refine lv_goto (tgt := 79) hx hb dX7_weakestOf_75 (by decide) ?_
                refine lv_istore_n (lv' := [(1, .int (nI (j + 1))), (3, .int 1), (2, .int (nI (j + 1))), (0, .ref mx)]) hx hb dX7_weakestOf_79 rfl hl (by decide) rfl (fun ls hl => ?_)
                refine lv_iinc (v := nI (j + 1 + 1)) (lv' := [(2, .int (nI (j + 1 + 1))), (1, .int (nI (j + 1))), (3, .int 1), (0, .ref mx)]) hx hb dX7_weakestOf_80 hl (k := 2) rfl (nI_1 _) (by decide) rfl (fun ls hl => ?_)
                refine lv_goto (tgt := 4) hx hb dX7_weakestOf_83 (by decide) ?_
                exact ih (j + 1) (nI (j + 1)) (by omega) (by omega) (lWk_t (fun h9 => c_18 ((zin (vp_in_nI (by omega) (Nat.le_of_ble_eq_true rfl))).mpr h9)) (by rw [← hxj]; exact fWeak_4 c_8 c_13)) (vp_in_nI (by omega) (Nat.le_of_ble_eq_true rfl)) ls (lv_sub hl [0, 1, 3] rfl)
  exact loop_1 26 0 0 (by omega) (by omega) rfl (vp_in_nI (n := 0) (by omega) (by omega)) ls (lv_sub hl [0, 1, 2] rfl)
set_option maxRecDepth 20000 in
theorem in_X7_behind_X7 : ∀ w ∈ wsX70, w ∈ wsX7_behind := mem_r _ [3, 4, 5, 6, 7, 8, 9, 10, 11, 12, 13, 14, 15, 16, 17, 18, 19, 20, 21, 22] (by decide +kernel)
theorem hd_X7_behind : yX7_behind.cls = RX7 ∧ yX7_behind.cls ≠ "java/lang/invoke/MethodHandle" ∧ yX7_behind.cls ≠ "java/lang/invoke/VarHandle" ∧ (parseMethodDescriptor yX7_behind.desc).map (fun d => d.parameters.length) = some 1 := by decide +kernel
set_option maxHeartbeats 4000000 in
set_option maxRecDepth 100000 in
theorem c_X7_behind (l : Launch) (D : va_G) (z : Nat → ClassId) (q : Nat → Nat) (mx : Nat) (th : Int32) (m1 : Nat) (m2 : Nat) (m3 : Nat) (m4 : Nat) (m5 : Nat) (m6 : Nat) (m7 : Nat) (m8 : Nat) (m9 : Nat) (m10 : Nat) (m11 : Nat) (pl : Nat → Int32) (ct : Nat → Int32) (ti : Nat → Int32) (sh : Nat → Int32) (ia : Nat → Int32) (pr : Nat → Int32) (lt : Nat → Int32) (ty : Nat → Int32) (zz : Int32) (po : Int32) (ml : Int32) (me : Int32) (ek : Nat → Int32) (ef : Nat → Int32) (wt : Int32) (wh : Int32) (sn : Int32) (kp : Nat → Int32) (dy : Int32) (b : Int32) (hbb : vp_in b 26) (hpr : prOk pr) : RD l yX7_behind wsX7_behind ({ frames := 0, cells := 0, slots := 0, locals := 0 } : Room) D z q [.ref mx, .int b] [(mx, .inr (7, [.int th, .ref m1, .ref m2, .ref m3, .ref m4, .ref m5, .ref m6, .ref m7, .ref m8, .int zz, .int po, .int ml, .int me, .ref m9, .ref m10, .int wt, .int wh, .int sn, .ref m11, .int dy])), (m1, .inl (z 0, 26, .inl pl)), (m2, .inl (z 0, 26, .inl ct)), (m3, .inl (z 0, 26, .inl ti)), (m4, .inl (z 0, 26, .inl sh)), (m5, .inl (z 1, 26, .inl ia)), (m6, .inl (z 0, 676, .inl pr)), (m7, .inl (z 0, 40, .inl lt)), (m8, .inl (z 0, 40, .inl ty)), (m9, .inl (z 0, 5, .inl ek)), (m10, .inl (z 0, 8, .inl ef)), (m11, .inl (z 0, 100, .inl kp))] (some (.int ((lSb ia pr b 26).1))) := by
  refine RD_mk (cc := cX7_behind) (maxL := 5) (ret := (some .int)) (by decide) rfl (Nat.le_of_ble_eq_true rfl) ?_
  intro p e s m below meth c hx hb hr hml hts hown hlocks hP hE hS hA ls hl
  have hK := hE.1
  have hown : s.vm.findClass RX7 = some m.cls := hown
  have hl : lv_has ls 5 [(0, .ref mx), (1, .int b)] := hl
  refine lv_iconst (v := (-1)) hx hb dX7_behind_0 (by decide) ?_
  refine lv_istore_n (lv' := [(2, .int (-1)), (0, .ref mx), (1, .int b)]) hx hb dX7_behind_1 rfl hl (by decide) rfl (fun ls hl => ?_)
  refine lv_iconst (v := 0) hx hb dX7_behind_2 (by decide) ?_
  refine lv_istore_n (lv' := [(3, .int 0), (2, .int (-1)), (0, .ref mx), (1, .int b)]) hx hb dX7_behind_3 rfl hl (by decide) rfl (fun ls hl => ?_)
  have loop_1 : ∀ (n : Nat) (j : Nat) (x : Int32) (y : Int32), j ≤ 26 → 26 < j + n → x = (lSb ia pr b j).1 → y = (lSb ia pr b j).2 → sbOk pr b x y → ∀ ls : Array Slot, lv_has ls 5 [(3, .int (nI j)), (2, .int x), (0, .ref mx), (1, .int b)] → W p l e ({ frames := 0, cells := 0, slots := 0, locals := 0 } : Room) s m ([.ref mx, .int b] : List Value).toArray below meth c s.heap [] 0 0 (MQ below (QR (some (.int ((lSb ia pr b 26).1)))) ([.ref mx, .int b] : List Value).toArray s 0 0 (fun _ => False)) (F0 m 4 ls []) := by
    intro n
    induction n with
    | zero => intro j x y hj hf hxj hyj hok; exact absurd hf (by omega)
    | succ n ih =>
      intro j x y hj hf hxj hyj hok ls hl
      refine lv_iload_n hx hb dX7_behind_4 rfl (lv_at hl 0 rfl) ?_
      refine lv_bipush (v := 26) hx hb dX7_behind_5 (by decide) ?_
      refine lv_icmp_ge (tgt := 78) hx hb dX7_behind_7 (by decide) (fun c_2 => ?_) (fun c_2 => ?_)
      · have hj2 : j = 26 := lpx c_2 hj (Nat.le_of_ble_eq_true rfl) rfl
        refine lv_iload_n hx hb dX7_behind_78 rfl (lv_at hl 1 rfl) ?_
        exact rd_i hx hb hr hlocks dX7_behind_79 (by rw [hxj, hj2])
      · have hjl : j < 26 := lpn c_2 hj (Nat.le_of_ble_eq_true rfl) rfl
        refine lv_aload_n hx hb dX7_behind_10 rfl (lv_at hl 2 rfl) ?_
        refine va_get (D := D) (ci := 7) (v := .ref m5) (C := RX7) (T := TX7) (N := 20) hx hb hts in_X7_behind_X7 hown hK hP 0 rfl rfl 5 (by decide) (hts (.fieldLink RX7 22 "TypingCoachModel" "areIn" "[Z") (List.mem_of_getElem? (i := 1) rfl)) (fun _ h9 => h9) rfl dX7_behind_11 ?_
        refine lv_iload_n hx hb dX7_behind_14 rfl (lv_at hl 0 rfl) ?_
        refine va_zald hx hb hK hP 5 1 rfl rfl (vp_in_nI hjl (Nat.le_of_ble_eq_true rfl)) dX7_behind_15 ?_
        refine lv_if_eq (tgt := 28) hx hb dX7_behind_16 (by decide) (fun c_3 => ?_) (fun c_3 => ?_)
        · refine lv_iconst (v := 0) hx hb dX7_behind_28 (by decide) ?_
          refine lv_istore (lv' := [(4, .int 0), (3, .int (nI j)), (2, .int x), (0, .ref mx), (1, .int b)]) hx hb dX7_behind_29 hl (by decide) rfl (fun ls hl => ?_)
          refine lv_iload hx hb dX7_behind_31 (lv_at hl 0 rfl) ?_
          refine lv_if_eq (tgt := 70) hx hb dX7_behind_33 (by decide) (fun _ => ?_) (fun c_4 => absurd (by decide) c_4)
          refine lv_iload_n hx hb dX7_behind_70 rfl (lv_at hl 2 rfl) ?_
          refine lv_istore_n (lv' := [(2, .int x), (4, .int 0), (3, .int (nI j)), (0, .ref mx), (1, .int b)]) hx hb dX7_behind_71 rfl hl (by decide) rfl (fun ls hl => ?_)
          refine lv_iinc (v := nI (j + 1)) (lv' := [(3, .int (nI (j + 1))), (2, .int x), (4, .int 0), (0, .ref mx), (1, .int b)]) hx hb dX7_behind_72 hl (k := 2) rfl (nI_1 j) (by decide) rfl (fun ls hl => ?_)
          refine lv_goto (tgt := 4) hx hb dX7_behind_75 (by decide) ?_
          exact ih (j + 1) x y (by omega) (by omega) (by rw [lSb_0 ((zin (vp_in_nI hjl (Nat.le_of_ble_eq_true rfl))).mp c_3)]; exact hxj) (by rw [lSb_0 ((zin (vp_in_nI hjl (Nat.le_of_ble_eq_true rfl))).mp c_3)]; exact hyj) hok ls (lv_sub hl [0, 1, 3, 4] rfl)
        · refine lv_iload_n hx hb dX7_behind_19 rfl (lv_at hl 0 rfl) ?_
          refine lv_iload_n hx hb dX7_behind_20 rfl (lv_at hl 3 rfl) ?_
          refine lv_icmp_eq (tgt := 28) hx hb dX7_behind_21 (by decide) (fun c_6 => ?_) (fun c_6 => ?_)
          · refine lv_iconst (v := 0) hx hb dX7_behind_28 (by decide) ?_
            refine lv_istore (lv' := [(4, .int 0), (3, .int (nI j)), (2, .int x), (0, .ref mx), (1, .int b)]) hx hb dX7_behind_29 hl (by decide) rfl (fun ls hl => ?_)
            refine lv_iload hx hb dX7_behind_31 (lv_at hl 0 rfl) ?_
            refine lv_if_eq (tgt := 70) hx hb dX7_behind_33 (by decide) (fun _ => ?_) (fun c_7 => absurd (by decide) c_7)
            refine lv_iload_n hx hb dX7_behind_70 rfl (lv_at hl 2 rfl) ?_
            refine lv_istore_n (lv' := [(2, .int x), (4, .int 0), (3, .int (nI j)), (0, .ref mx), (1, .int b)]) hx hb dX7_behind_71 rfl hl (by decide) rfl (fun ls hl => ?_)
            refine lv_iinc (v := nI (j + 1)) (lv' := [(3, .int (nI (j + 1))), (2, .int x), (4, .int 0), (0, .ref mx), (1, .int b)]) hx hb dX7_behind_72 hl (k := 2) rfl (nI_1 j) (by decide) rfl (fun ls hl => ?_)
            refine lv_goto (tgt := 4) hx hb dX7_behind_75 (by decide) ?_
            exact ih (j + 1) x y (by omega) (by omega) (by rw [lSb_e c_6]; exact hxj) (by rw [lSb_e c_6]; exact hyj) hok ls (lv_sub hl [0, 1, 3, 4] rfl)
          · refine lv_iconst (v := 1) hx hb dX7_behind_24 (by decide) ?_
            refine lv_goto (tgt := 29) hx hb dX7_behind_25 (by decide) ?_
            refine lv_istore (lv' := [(4, .int 1), (3, .int (nI j)), (2, .int x), (0, .ref mx), (1, .int b)]) hx hb dX7_behind_29 hl (by decide) rfl (fun ls hl => ?_)
            refine lv_iload hx hb dX7_behind_31 (lv_at hl 0 rfl) ?_
            refine lv_if_eq (tgt := 70) hx hb dX7_behind_33 (by decide) (fun c_9 => absurd c_9 (by decide)) (fun _ => ?_)
            refine lv_iload_n hx hb dX7_behind_36 rfl (lv_at hl 2 rfl) ?_
            refine lv_iconst (v := (-1)) hx hb dX7_behind_37 (by decide) ?_
            refine lv_icmp_eq (tgt := 66) hx hb dX7_behind_38 (by decide) (fun c_10 => ?_) (fun c_10 => ?_)
            · refine lv_iload_n hx hb dX7_behind_66 rfl (lv_at hl 1 rfl) ?_
              refine lv_goto (tgt := 71) hx hb dX7_behind_67 (by decide) ?_
              refine lv_istore_n (lv' := [(2, .int (nI j)), (4, .int 1), (3, .int (nI j)), (0, .ref mx), (1, .int b)]) hx hb dX7_behind_71 rfl hl (by decide) rfl (fun ls hl => ?_)
              refine lv_iinc (v := nI (j + 1)) (lv' := [(3, .int (nI (j + 1))), (2, .int (nI j)), (4, .int 1), (0, .ref mx), (1, .int b)]) hx hb dX7_behind_72 hl (k := 2) rfl (nI_1 j) (by decide) rfl (fun ls hl => ?_)
              refine lv_goto (tgt := 4) hx hb dX7_behind_75 (by decide) ?_
              exact ih (j + 1) (nI j) (cAt 676 pr (fPair b (nI j))) (by omega) (by omega) (by rw [lSb_t (fun h9 => c_3 ((zin (vp_in_nI hjl (Nat.le_of_ble_eq_true rfl))).mpr h9)) c_6 (by rw [← hyj, hok.elim (fun h9 => h9.2) (fun h9 => absurd h9.1 (by rw [c_10]; exact nvp1))]; exact prOk_at hpr hbb (vp_in_nI hjl (Nat.le_of_ble_eq_true rfl)))]) (by rw [lSb_t (fun h9 => c_3 ((zin (vp_in_nI hjl (Nat.le_of_ble_eq_true rfl))).mpr h9)) c_6 (by rw [← hyj, hok.elim (fun h9 => h9.2) (fun h9 => absurd h9.1 (by rw [c_10]; exact nvp1))]; exact prOk_at hpr hbb (vp_in_nI hjl (Nat.le_of_ble_eq_true rfl)))]) (Or.inr ⟨(vp_in_nI hjl (Nat.le_of_ble_eq_true rfl)), rfl⟩) ls (lv_sub hl [0, 1, 3, 4] rfl)
            · refine lv_aload_n hx hb dX7_behind_41 rfl (lv_at hl 3 rfl) ?_
              refine va_get (D := D) (ci := 7) (v := .ref m6) (C := RX7) (T := TX7) (N := 20) hx hb hts in_X7_behind_X7 hown hK hP 0 rfl rfl 6 (by decide) (hts (.fieldLink RX7 26 "TypingCoachModel" "pairs" "[I") (List.mem_of_getElem? (i := 2) rfl)) (fun _ h9 => h9) rfl dX7_behind_42 ?_
              refine lv_bipush (v := 26) hx hb dX7_behind_45 (by decide) ?_
              refine lv_iload_n hx hb dX7_behind_47 rfl (lv_at hl 4 rfl) ?_
              refine lv_imul hx hb dX7_behind_48 ?_
              refine lv_iload_n hx hb dX7_behind_49 rfl (lv_at hl 1 rfl) ?_
              refine lv_iadd hx hb dX7_behind_50 ?_
              refine mIald hx hb hK hP 6 0 rfl rfl (Nat.le_of_ble_eq_true rfl) (fPair_in hbb (vp_in_nI hjl (Nat.le_of_ble_eq_true rfl))) dX7_behind_51 ?_
              refine lv_aload_n hx hb dX7_behind_52 rfl (lv_at hl 3 rfl) ?_
              refine va_get (D := D) (ci := 7) (v := .ref m6) (C := RX7) (T := TX7) (N := 20) hx hb hts in_X7_behind_X7 hown hK hP 0 rfl rfl 6 (by decide) (hts (.fieldLink RX7 26 "TypingCoachModel" "pairs" "[I") (List.mem_of_getElem? (i := 2) rfl)) (fun _ h9 => h9) rfl dX7_behind_53 ?_
              refine lv_bipush (v := 26) hx hb dX7_behind_56 (by decide) ?_
              refine lv_iload_n hx hb dX7_behind_58 rfl (lv_at hl 4 rfl) ?_
              refine lv_imul hx hb dX7_behind_59 ?_
              refine lv_iload_n hx hb dX7_behind_60 rfl (lv_at hl 2 rfl) ?_
              refine lv_iadd hx hb dX7_behind_61 ?_
              refine mIald hx hb hK hP 6 0 rfl rfl (Nat.le_of_ble_eq_true rfl) (fPair_in hbb (hok.elim (fun h9 => absurd h9.1 c_10) (fun h9 => h9.1))) dX7_behind_62 ?_
              refine lv_icmp_le (tgt := 70) hx hb dX7_behind_63 (by decide) (fun c_12 => ?_) (fun c_12 => ?_)
              · refine lv_iload_n hx hb dX7_behind_70 rfl (lv_at hl 2 rfl) ?_
                refine lv_istore_n (lv' := [(2, .int x), (4, .int 1), (3, .int (nI j)), (0, .ref mx), (1, .int b)]) hx hb dX7_behind_71 rfl hl (by decide) rfl (fun ls hl => ?_)
                refine lv_iinc (v := nI (j + 1)) (lv' := [(3, .int (nI (j + 1))), (2, .int x), (4, .int 1), (0, .ref mx), (1, .int b)]) hx hb dX7_behind_72 hl (k := 2) rfl (nI_1 j) (by decide) rfl (fun ls hl => ?_)
                refine lv_goto (tgt := 4) hx hb dX7_behind_75 (by decide) ?_
                exact ih (j + 1) x y (by omega) (by omega) (by rw [lSb_f (by rw [← hyj, hok.elim (fun h9 => absurd h9.1 c_10) (fun h9 => h9.2), ← fPair_c, ← fPair_c]; exact c_12)]; exact hxj) (by rw [lSb_f (by rw [← hyj, hok.elim (fun h9 => absurd h9.1 c_10) (fun h9 => h9.2), ← fPair_c, ← fPair_c]; exact c_12)]; exact hyj) hok ls (lv_sub hl [0, 1, 3, 4] rfl)
              · refine lv_iload_n hx hb dX7_behind_66 rfl (lv_at hl 1 rfl) ?_
                refine lv_goto (tgt := 71) hx hb dX7_behind_67 (by decide) ?_
                refine lv_istore_n (lv' := [(2, .int (nI j)), (4, .int 1), (3, .int (nI j)), (0, .ref mx), (1, .int b)]) hx hb dX7_behind_71 rfl hl (by decide) rfl (fun ls hl => ?_)
                refine lv_iinc (v := nI (j + 1)) (lv' := [(3, .int (nI (j + 1))), (2, .int (nI j)), (4, .int 1), (0, .ref mx), (1, .int b)]) hx hb dX7_behind_72 hl (k := 2) rfl (nI_1 j) (by decide) rfl (fun ls hl => ?_)
                refine lv_goto (tgt := 4) hx hb dX7_behind_75 (by decide) ?_
                exact ih (j + 1) (nI j) (cAt 676 pr (fPair b (nI j))) (by omega) (by omega) (by rw [lSb_t (fun h9 => c_3 ((zin (vp_in_nI hjl (Nat.le_of_ble_eq_true rfl))).mpr h9)) c_6 (by rw [← hyj, hok.elim (fun h9 => absurd h9.1 c_10) (fun h9 => h9.2), ← fPair_c, ← fPair_c]; exact c_12)]) (by rw [lSb_t (fun h9 => c_3 ((zin (vp_in_nI hjl (Nat.le_of_ble_eq_true rfl))).mpr h9)) c_6 (by rw [← hyj, hok.elim (fun h9 => absurd h9.1 c_10) (fun h9 => h9.2), ← fPair_c, ← fPair_c]; exact c_12)]) (Or.inr ⟨(vp_in_nI hjl (Nat.le_of_ble_eq_true rfl)), rfl⟩) ls (lv_sub hl [0, 1, 3, 4] rfl)
  exact loop_1 27 0 (-1) (-1) (by omega) (by omega) rfl rfl (Or.inl ⟨rfl, rfl⟩) ls (lv_sub hl [0, 1, 2, 3] rfl)
set_option maxRecDepth 20000 in
theorem in_X7_speedNow_X7 : ∀ w ∈ wsX70, w ∈ wsX7_speedNow := mem_r _ [6, 7, 8, 9, 10, 11, 12, 13, 14, 15, 16, 17, 18, 19, 20, 21, 22, 23, 24, 25] (by decide +kernel)
theorem hd_X7_speedNow : yX7_speedNow.cls = RX7 ∧ yX7_speedNow.cls ≠ "java/lang/invoke/MethodHandle" ∧ yX7_speedNow.cls ≠ "java/lang/invoke/VarHandle" ∧ (parseMethodDescriptor yX7_speedNow.desc).map (fun d => d.parameters.length) = some 0 := by decide +kernel
set_option maxHeartbeats 4000000 in
set_option maxRecDepth 100000 in
theorem c_X7_speedNow (l : Launch) (D : va_G) (z : Nat → ClassId) (q : Nat → Nat) (mx : Nat) (th : Int32) (m1 : Nat) (m2 : Nat) (m3 : Nat) (m4 : Nat) (m5 : Nat) (m6 : Nat) (m7 : Nat) (m8 : Nat) (m9 : Nat) (m10 : Nat) (m11 : Nat) (pl : Nat → Int32) (ct : Nat → Int32) (ti : Nat → Int32) (sh : Nat → Int32) (ia : Nat → Int32) (pr : Nat → Int32) (lt : Nat → Int32) (ty : Nat → Int32) (zz : Int32) (po : Int32) (ml : Int32) (me : Int32) (ek : Nat → Int32) (ef : Nat → Int32) (wt : Int32) (wh : Int32) (sn : Int32) (kp : Nat → Int32) (dy : Int32) (ps : Nat) (hps : po = nI ps) (hp40 : ps ≤ 40) : RD l yX7_speedNow wsX7_speedNow ({ frames := 0, cells := 0, slots := 0, locals := 0 } : Room) D z q [.ref mx] [(mx, .inr (7, [.int th, .ref m1, .ref m2, .ref m3, .ref m4, .ref m5, .ref m6, .ref m7, .ref m8, .int zz, .int po, .int ml, .int me, .ref m9, .ref m10, .int wt, .int wh, .int sn, .ref m11, .int dy])), (m1, .inl (z 0, 26, .inl pl)), (m2, .inl (z 0, 26, .inl ct)), (m3, .inl (z 0, 26, .inl ti)), (m4, .inl (z 0, 26, .inl sh)), (m5, .inl (z 1, 26, .inl ia)), (m6, .inl (z 0, 676, .inl pr)), (m7, .inl (z 0, 40, .inl lt)), (m8, .inl (z 0, 40, .inl ty)), (m9, .inl (z 0, 5, .inl ek)), (m10, .inl (z 0, 8, .inl ef)), (m11, .inl (z 0, 100, .inl kp))] (some (.int (mSpeed lt ty ps ml))) := by
  refine RD_mk (cc := cX7_speedNow) (maxL := 3) (ret := (some .int)) (by decide) rfl (Nat.le_of_ble_eq_true rfl) ?_
  intro p e s m below meth c hx hb hr hml hts hown hlocks hP hE hS hA ls hl
  have hK := hE.1
  have hown : s.vm.findClass RX7 = some m.cls := hown
  have hl : lv_has ls 3 [(0, .ref mx)] := hl
  refine lv_iconst (v := 0) hx hb dX7_speedNow_0 (by decide) ?_
  refine lv_istore_n (lv' := [(1, .int 0), (0, .ref mx)]) hx hb dX7_speedNow_1 rfl hl (by decide) rfl (fun ls hl => ?_)
  refine lv_iconst (v := 0) hx hb dX7_speedNow_2 (by decide) ?_
  refine lv_istore_n (lv' := [(2, .int 0), (1, .int 0), (0, .ref mx)]) hx hb dX7_speedNow_3 rfl hl (by decide) rfl (fun ls hl => ?_)
  have loop_1 : ∀ (n : Nat) (j : Nat) (x : Int32), j ≤ ps → ps < j + n → x = tRight lt ty j → ∀ ls : Array Slot, lv_has ls 3 [(2, .int (nI j)), (1, .int x), (0, .ref mx)] → W p l e ({ frames := 0, cells := 0, slots := 0, locals := 0 } : Room) s m ([.ref mx] : List Value).toArray below meth c s.heap [] 0 0 (MQ below (QR (some (.int (mSpeed lt ty ps ml)))) ([.ref mx] : List Value).toArray s 0 0 (fun _ => False)) (F0 m 4 ls []) := by
    intro n
    induction n with
    | zero => intro j x hj hf hxj; exact absurd hf (by omega)
    | succ n ih =>
      intro j x hj hf hxj ls hl
      refine lv_iload_n hx hb dX7_speedNow_4 rfl (lv_at hl 0 rfl) ?_
      refine lv_aload_n hx hb dX7_speedNow_5 rfl (lv_at hl 2 rfl) ?_
      refine va_get (D := D) (ci := 7) (v := .int po) (C := RX7) (T := TX7) (N := 20) hx hb hts in_X7_speedNow_X7 hown hK hP 0 rfl rfl 10 (by decide) (hts (.fieldLink RX7 93 "TypingCoachModel" "position" "I") (List.mem_of_getElem? (i := 1) rfl)) (fun _ h9 => h9) rfl dX7_speedNow_6 ?_
      refine lv_icmp_ge (tgt := 41) hx hb dX7_speedNow_9 (by decide) (fun c_2 => ?_) (fun c_2 => ?_)
      · have hj2 : j = ps := lpx c_2 hj (by omega) hps
        refine lv_aload_n hx hb dX7_speedNow_41 rfl (lv_at hl 2 rfl) ?_
        refine va_get (D := D) (ci := 7) (v := .int ml) (C := RX7) (T := TX7) (N := 20) hx hb hts in_X7_speedNow_X7 hown hK hP 0 rfl rfl 11 (by decide) (hts (.fieldLink RX7 99 "TypingCoachModel" "spent" "I") (List.mem_of_getElem? (i := 4) rfl)) (fun _ h9 => h9) rfl dX7_speedNow_42 ?_
        refine lv_if_ne (tgt := 52) hx hb dX7_speedNow_45 (by decide) (fun c_3 => ?_) (fun c_3 => ?_)
        · refine lv_iload_n hx hb dX7_speedNow_52 rfl (lv_at hl 1 rfl) ?_
          refine lv_ldc (v := 60000) hx hb hown (hts (.constant RX7 108 60000) (List.mem_of_getElem? (i := 5) rfl)) dX7_speedNow_53 ?_
          refine lv_imul hx hb dX7_speedNow_55 ?_
          refine lv_aload_n hx hb dX7_speedNow_56 rfl (lv_at hl 2 rfl) ?_
          refine va_get (D := D) (ci := 7) (v := .int ml) (C := RX7) (T := TX7) (N := 20) hx hb hts in_X7_speedNow_X7 hown hK hP 0 rfl rfl 11 (by decide) (hts (.fieldLink RX7 99 "TypingCoachModel" "spent" "I") (List.mem_of_getElem? (i := 4) rfl)) (fun _ h9 => h9) rfl dX7_speedNow_57 ?_
          refine lv_idiv hx hb dX7_speedNow_60 c_3 ?_
          exact rd_i hx hb hr hlocks dX7_speedNow_61 (by simp only [mSpeed, ← hj2, ← hxj, if_pos c_2, if_neg c_3])
        · refine lv_iconst (v := 0) hx hb dX7_speedNow_48 (by decide) ?_
          refine lv_goto (tgt := 61) hx hb dX7_speedNow_49 (by decide) ?_
          exact rd_i hx hb hr hlocks dX7_speedNow_61 (by simp only [mSpeed, ← hj2, ← hxj, if_pos c_2, if_pos c_3])
      · have hjl : j < ps := lpn c_2 hj (by omega) hps
        refine lv_iload_n hx hb dX7_speedNow_12 rfl (lv_at hl 1 rfl) ?_
        refine lv_aload_n hx hb dX7_speedNow_13 rfl (lv_at hl 2 rfl) ?_
        refine va_get (D := D) (ci := 7) (v := .ref m8) (C := RX7) (T := TX7) (N := 20) hx hb hts in_X7_speedNow_X7 hown hK hP 0 rfl rfl 8 (by decide) (hts (.fieldLink RX7 32 "TypingCoachModel" "typed" "[I") (List.mem_of_getElem? (i := 2) rfl)) (fun _ h9 => h9) rfl dX7_speedNow_14 ?_
        refine lv_iload_n hx hb dX7_speedNow_17 rfl (lv_at hl 0 rfl) ?_
        refine mIald hx hb hK hP 8 0 rfl rfl (Nat.le_of_ble_eq_true rfl) (vp_in_nI (by omega) (Nat.le_of_ble_eq_true rfl)) dX7_speedNow_18 ?_
        refine lv_aload_n hx hb dX7_speedNow_19 rfl (lv_at hl 2 rfl) ?_
        refine va_get (D := D) (ci := 7) (v := .ref m7) (C := RX7) (T := TX7) (N := 20) hx hb hts in_X7_speedNow_X7 hown hK hP 0 rfl rfl 7 (by decide) (hts (.fieldLink RX7 29 "TypingCoachModel" "wanted" "[I") (List.mem_of_getElem? (i := 3) rfl)) (fun _ h9 => h9) rfl dX7_speedNow_20 ?_
        refine lv_iload_n hx hb dX7_speedNow_23 rfl (lv_at hl 0 rfl) ?_
        refine mIald hx hb hK hP 7 0 rfl rfl (Nat.le_of_ble_eq_true rfl) (vp_in_nI (by omega) (Nat.le_of_ble_eq_true rfl)) dX7_speedNow_24 ?_
        refine lv_icmp_ne (tgt := 32) hx hb dX7_speedNow_25 (by decide) (fun c_4 => ?_) (fun c_4 => ?_)
        · refine lv_iconst (v := 0) hx hb dX7_speedNow_32 (by decide) ?_
          refine lv_iadd hx hb dX7_speedNow_33 ?_
          refine lv_istore_n (lv' := [(1, .int (x + 0)), (2, .int (nI j)), (0, .ref mx)]) hx hb dX7_speedNow_34 rfl hl (by decide) rfl (fun ls hl => ?_)
          refine lv_iinc (v := nI (j + 1)) (lv' := [(2, .int (nI (j + 1))), (1, .int (x + 0)), (0, .ref mx)]) hx hb dX7_speedNow_35 hl (k := 1) rfl (nI_1 j) (by decide) rfl (fun ls hl => ?_)
          refine lv_goto (tgt := 4) hx hb dX7_speedNow_38 (by decide) ?_
          exact ih (j + 1) (x + 0) (by omega) (by omega) (by rw [tRight, ← hxj]; simp only [if_neg c_2, if_neg c_4, Int32.add_zero]) ls (lv_sub hl [0, 1, 2] rfl)
        · refine lv_iconst (v := 1) hx hb dX7_speedNow_28 (by decide) ?_
          refine lv_goto (tgt := 33) hx hb dX7_speedNow_29 (by decide) ?_
          refine lv_iadd hx hb dX7_speedNow_33 ?_
          refine lv_istore_n (lv' := [(1, .int (x + 1)), (2, .int (nI j)), (0, .ref mx)]) hx hb dX7_speedNow_34 rfl hl (by decide) rfl (fun ls hl => ?_)
          refine lv_iinc (v := nI (j + 1)) (lv' := [(2, .int (nI (j + 1))), (1, .int (x + 1)), (0, .ref mx)]) hx hb dX7_speedNow_35 hl (k := 1) rfl (nI_1 j) (by decide) rfl (fun ls hl => ?_)
          refine lv_goto (tgt := 4) hx hb dX7_speedNow_38 (by decide) ?_
          exact ih (j + 1) (x + 1) (by omega) (by omega) (by rw [tRight, ← hxj]; simp only [if_neg c_2, if_pos c_4, Int32.add_zero]) ls (lv_sub hl [0, 1, 2] rfl)
  exact loop_1 (ps + 1) 0 0 (by omega) (by omega) rfl ls (lv_sub hl [0, 1, 2] rfl)
set_option maxRecDepth 20000 in
theorem in_X7_isGoodOne_X7 : ∀ w ∈ wsX70, w ∈ wsX7_isGoodOne := mem_r _ [6, 7, 8, 9, 10, 11, 12, 13, 14, 15, 16, 17, 18, 19, 20, 21, 22, 23, 24, 25] (by decide +kernel)
theorem hd_X7_isGoodOne : yX7_isGoodOne.cls = RX7 ∧ yX7_isGoodOne.cls ≠ "java/lang/invoke/MethodHandle" ∧ yX7_isGoodOne.cls ≠ "java/lang/invoke/VarHandle" ∧ (parseMethodDescriptor yX7_isGoodOne.desc).map (fun d => d.parameters.length) = some 1 := by decide +kernel
set_option maxHeartbeats 4000000 in
set_option maxRecDepth 100000 in
theorem c_X7_isGoodOne (l : Launch) (D : va_G) (z : Nat → ClassId) (q : Nat → Nat) (mx : Nat) (th : Int32) (m1 : Nat) (m2 : Nat) (m3 : Nat) (m4 : Nat) (m5 : Nat) (m6 : Nat) (m7 : Nat) (m8 : Nat) (m9 : Nat) (m10 : Nat) (m11 : Nat) (pl : Nat → Int32) (ct : Nat → Int32) (ti : Nat → Int32) (sh : Nat → Int32) (ia : Nat → Int32) (pr : Nat → Int32) (lt : Nat → Int32) (ty : Nat → Int32) (zz : Int32) (po : Int32) (ml : Int32) (me : Int32) (ek : Nat → Int32) (ef : Nat → Int32) (wt : Int32) (wh : Int32) (sn : Int32) (kp : Nat → Int32) (dy : Int32) (i : Int32) (hi : vp_in i 26) : RD l yX7_isGoodOne wsX7_isGoodOne ({ frames := 0, cells := 0, slots := 0, locals := 0 } : Room) D z q [.ref mx, .int i] [(mx, .inr (7, [.int th, .ref m1, .ref m2, .ref m3, .ref m4, .ref m5, .ref m6, .ref m7, .ref m8, .int zz, .int po, .int ml, .int me, .ref m9, .ref m10, .int wt, .int wh, .int sn, .ref m11, .int dy])), (m1, .inl (z 0, 26, .inl pl)), (m2, .inl (z 0, 26, .inl ct)), (m3, .inl (z 0, 26, .inl ti)), (m4, .inl (z 0, 26, .inl sh)), (m5, .inl (z 1, 26, .inl ia)), (m6, .inl (z 0, 676, .inl pr)), (m7, .inl (z 0, 40, .inl lt)), (m8, .inl (z 0, 40, .inl ty)), (m9, .inl (z 0, 5, .inl ek)), (m10, .inl (z 0, 8, .inl ef)), (m11, .inl (z 0, 100, .inl kp))] (some (.int (fGood ct ti sh wt wh i))) := by
  refine RD_mk (cc := cX7_isGoodOne) (maxL := 2) (ret := (some .boolean)) (by decide) rfl (Nat.le_of_ble_eq_true rfl) ?_
  intro p e s m below meth c hx hb hr hml hts hown hlocks hP hE hS hA ls hl
  have hK := hE.1
  have hown : s.vm.findClass RX7 = some m.cls := hown
  have hl : lv_has ls 2 [(0, .ref mx), (1, .int i)] := hl
  refine lv_aload_n hx hb dX7_isGoodOne_0 rfl (lv_at hl 0 rfl) ?_
  refine va_get (D := D) (ci := 7) (v := .ref m2) (C := RX7) (T := TX7) (N := 20) hx hb hts in_X7_isGoodOne_X7 hown hK hP 0 rfl rfl 2 (by decide) (hts (.fieldLink RX7 13 "TypingCoachModel" "counts" "[I") (List.mem_of_getElem? (i := 1) rfl)) (fun _ h9 => h9) rfl dX7_isGoodOne_1 ?_
  refine lv_iload_n hx hb dX7_isGoodOne_4 rfl (lv_at hl 1 rfl) ?_
  refine mIald hx hb hK hP 2 0 rfl rfl (Nat.le_of_ble_eq_true rfl) hi dX7_isGoodOne_5 ?_
  refine lv_iconst (v := 3) hx hb dX7_isGoodOne_6 (by decide) ?_
  refine lv_icmp_lt (tgt := 40) hx hb dX7_isGoodOne_7 (by decide) (fun c_1 => ?_) (fun c_1 => ?_)
  · refine lv_iconst (v := 0) hx hb dX7_isGoodOne_40 (by decide) ?_
    exact rd_z hx hb hr hlocks dX7_isGoodOne_41 (by decide) (by simp only [fGood, if_pos c_1, ↓reduceIte])
  · refine lv_aload_n hx hb dX7_isGoodOne_10 rfl (lv_at hl 0 rfl) ?_
    refine va_get (D := D) (ci := 7) (v := .ref m3) (C := RX7) (T := TX7) (N := 20) hx hb hts in_X7_isGoodOne_X7 hown hK hP 0 rfl rfl 3 (by decide) (hts (.fieldLink RX7 16 "TypingCoachModel" "times" "[I") (List.mem_of_getElem? (i := 2) rfl)) (fun _ h9 => h9) rfl dX7_isGoodOne_11 ?_
    refine lv_iload_n hx hb dX7_isGoodOne_14 rfl (lv_at hl 1 rfl) ?_
    refine mIald hx hb hK hP 3 0 rfl rfl (Nat.le_of_ble_eq_true rfl) hi dX7_isGoodOne_15 ?_
    refine lv_aload_n hx hb dX7_isGoodOne_16 rfl (lv_at hl 0 rfl) ?_
    refine va_get (D := D) (ci := 7) (v := .int wt) (C := RX7) (T := TX7) (N := 20) hx hb hts in_X7_isGoodOne_X7 hown hK hP 0 rfl rfl 15 (by decide) (hts (.fieldLink RX7 41 "TypingCoachModel" "wishedTime" "I") (List.mem_of_getElem? (i := 3) rfl)) (fun _ h9 => h9) rfl dX7_isGoodOne_17 ?_
    refine lv_icmp_gt (tgt := 40) hx hb dX7_isGoodOne_20 (by decide) (fun c_2 => ?_) (fun c_2 => ?_)
    · refine lv_iconst (v := 0) hx hb dX7_isGoodOne_40 (by decide) ?_
      exact rd_z hx hb hr hlocks dX7_isGoodOne_41 (by decide) (by simp only [fGood, if_neg c_1, if_pos c_2, ↓reduceIte])
    · refine lv_aload_n hx hb dX7_isGoodOne_23 rfl (lv_at hl 0 rfl) ?_
      refine va_get (D := D) (ci := 7) (v := .ref m4) (C := RX7) (T := TX7) (N := 20) hx hb hts in_X7_isGoodOne_X7 hown hK hP 0 rfl rfl 4 (by decide) (hts (.fieldLink RX7 19 "TypingCoachModel" "shares" "[I") (List.mem_of_getElem? (i := 4) rfl)) (fun _ h9 => h9) rfl dX7_isGoodOne_24 ?_
      refine lv_iload_n hx hb dX7_isGoodOne_27 rfl (lv_at hl 1 rfl) ?_
      refine mIald hx hb hK hP 4 0 rfl rfl (Nat.le_of_ble_eq_true rfl) hi dX7_isGoodOne_28 ?_
      refine lv_aload_n hx hb dX7_isGoodOne_29 rfl (lv_at hl 0 rfl) ?_
      refine va_get (D := D) (ci := 7) (v := .int wh) (C := RX7) (T := TX7) (N := 20) hx hb hts in_X7_isGoodOne_X7 hown hK hP 0 rfl rfl 16 (by decide) (hts (.fieldLink RX7 45 "TypingCoachModel" "wishedShare" "I") (List.mem_of_getElem? (i := 5) rfl)) (fun _ h9 => h9) rfl dX7_isGoodOne_30 ?_
      refine lv_icmp_gt (tgt := 40) hx hb dX7_isGoodOne_33 (by decide) (fun c_3 => ?_) (fun c_3 => ?_)
      · refine lv_iconst (v := 0) hx hb dX7_isGoodOne_40 (by decide) ?_
        exact rd_z hx hb hr hlocks dX7_isGoodOne_41 (by decide) (by simp only [fGood, if_neg c_1, if_neg c_2, if_pos c_3, ↓reduceIte])
      · refine lv_iconst (v := 1) hx hb dX7_isGoodOne_36 (by decide) ?_
        refine lv_goto (tgt := 41) hx hb dX7_isGoodOne_37 (by decide) ?_
        exact rd_z hx hb hr hlocks dX7_isGoodOne_41 (by decide) (by simp only [fGood, if_neg c_1, if_neg c_2, if_neg c_3, ↓reduceIte])
set_option maxRecDepth 20000 in
theorem in_X7_takesOut_X7 : ∀ w ∈ wsX70, w ∈ wsX7_takesOut := mem_r _ [5, 6, 7, 8, 9, 10, 11, 12, 13, 14, 15, 16, 17, 18, 19, 20, 21, 22, 23, 24] (by decide +kernel)
theorem hd_X7_takesOut : yX7_takesOut.cls = RX7 ∧ yX7_takesOut.cls ≠ "java/lang/invoke/MethodHandle" ∧ yX7_takesOut.cls ≠ "java/lang/invoke/VarHandle" ∧ (parseMethodDescriptor yX7_takesOut.desc).map (fun d => d.parameters.length) = some 0 := by decide +kernel
set_option maxHeartbeats 4000000 in
set_option maxRecDepth 100000 in
theorem c_X7_takesOut (l : Launch) (D : va_G) (z : Nat → ClassId) (q : Nat → Nat) (mx : Nat) (th : Int32) (m1 : Nat) (m2 : Nat) (m3 : Nat) (m4 : Nat) (m5 : Nat) (m6 : Nat) (m7 : Nat) (m8 : Nat) (m9 : Nat) (m10 : Nat) (m11 : Nat) (pl : Nat → Int32) (ct : Nat → Int32) (ti : Nat → Int32) (sh : Nat → Int32) (ia : Nat → Int32) (pr : Nat → Int32) (lt : Nat → Int32) (ty : Nat → Int32) (zz : Int32) (po : Int32) (ml : Int32) (me : Int32) (ek : Nat → Int32) (ef : Nat → Int32) (wt : Int32) (wh : Int32) (sn : Int32) (kp : Nat → Int32) (dy : Int32) (sz : Nat)  : WR l yX7_takesOut wsX7_takesOut ({ frames := 0, cells := 0, slots := 0, locals := 0 } : Room) D z q [.ref mx] [(mx, .inr (7, [.int th, .ref m1, .ref m2, .ref m3, .ref m4, .ref m5, .ref m6, .ref m7, .ref m8, .int zz, .int po, .int ml, .int me, .ref m9, .ref m10, .int wt, .int wh, .int sn, .ref m11, .int dy])), (m1, .inl (z 0, 26, .inl pl)), (m2, .inl (z 0, 26, .inl ct)), (m3, .inl (z 0, 26, .inl ti)), (m4, .inl (z 0, 26, .inl sh)), (m5, .inl (z 1, 26, .inl ia)), (m6, .inl (z 0, 676, .inl pr)), (m7, .inl (z 0, 40, .inl lt)), (m8, .inl (z 0, 40, .inl ty)), (m9, .inl (z 0, 5, .inl ek)), (m10, .inl (z 0, 8, .inl ef)), (m11, .inl (z 0, 100, .inl kp))] sz [(mx, .inr (7, [.int th, .ref m1, .ref m2, .ref m3, .ref m4, .ref m5, .ref m6, .ref m7, .ref m8, .int zz, .int po, .int ml, .int me, .ref m9, .ref m10, .int wt, .int wh, .int sn, .ref m11, .int dy])), (m1, .inl (z 0, 26, .inl pl)), (m2, .inl (z 0, 26, .inl (lMsk (lGo ia ct sh) 26 ct 0))), (m3, .inl (z 0, 26, .inl (lMsk (lGo ia ct sh) 26 ti 400))), (m4, .inl (z 0, 26, .inl (lMsk (lGo ia ct sh) 26 sh 0))), (m5, .inl (z 1, 26, .inl (lMsk (lGo ia ct sh) 26 ia 0))), (m6, .inl (z 0, 676, .inl pr)), (m7, .inl (z 0, 40, .inl lt)), (m8, .inl (z 0, 40, .inl ty)), (m9, .inl (z 0, 5, .inl ek)), (m10, .inl (z 0, 8, .inl ef)), (m11, .inl (z 0, 100, .inl kp))] (some (.int (lAny (lGo ia ct sh) 26))) := by
  refine WR_mk (Qc := fun A => QW D [(mx, .inr (7, [.int th, .ref m1, .ref m2, .ref m3, .ref m4, .ref m5, .ref m6, .ref m7, .ref m8, .int zz, .int po, .int ml, .int me, .ref m9, .ref m10, .int wt, .int wh, .int sn, .ref m11, .int dy])), (m1, .inl (z 0, 26, .inl pl)), (m2, .inl (z 0, 26, .inl (lMsk (lGo ia ct sh) 26 ct 0))), (m3, .inl (z 0, 26, .inl (lMsk (lGo ia ct sh) 26 ti 400))), (m4, .inl (z 0, 26, .inl (lMsk (lGo ia ct sh) 26 sh 0))), (m5, .inl (z 1, 26, .inl (lMsk (lGo ia ct sh) 26 ia 0))), (m6, .inl (z 0, 676, .inl pr)), (m7, .inl (z 0, 40, .inl lt)), (m8, .inl (z 0, 40, .inl ty)), (m9, .inl (z 0, 5, .inl ek)), (m10, .inl (z 0, 8, .inl ef)), (m11, .inl (z 0, 100, .inl kp))] A (some (.int (lAny (lGo ia ct sh) 26)))) (cc := cX7_takesOut) (maxL := 3) (ret := (some .boolean)) (by decide) rfl (Nat.le_of_ble_eq_true rfl) ?_
  intro p e s m below meth c A hx hb hr hml hts hown hlocks hin0 H hP hD hE hS hA ls hl
  have hK := hE.1
  have hown : s.vm.findClass RX7 = some m.cls := hown
  have hl : lv_has ls 3 [(0, .ref mx)] := hl
  refine lv_iconst (v := 0) hx hb dX7_takesOut_0 (by decide) ?_
  refine lv_istore_n (lv' := [(1, .int 0), (0, .ref mx)]) hx hb dX7_takesOut_1 rfl hl (by decide) rfl (fun ls hl => ?_)
  refine lv_iconst (v := 4) hx hb dX7_takesOut_2 (by decide) ?_
  refine lv_istore_n (lv' := [(2, .int 4), (1, .int 0), (0, .ref mx)]) hx hb dX7_takesOut_3 rfl hl (by decide) rfl (fun ls hl => ?_)
  have loop_1 : ∀ (n : Nat) (j : Nat) (x : Int32), 4 ≤ j → j ≤ 26 → 26 < j + n → x = lAny (lGo ia ct sh) j → ∀ (H : Heap) (locs : List Loc), va_P D vwCl [(mx, .inr (7, [.int th, .ref m1, .ref m2, .ref m3, .ref m4, .ref m5, .ref m6, .ref m7, .ref m8, .int zz, .int po, .int ml, .int me, .ref m9, .ref m10, .int wt, .int wh, .int sn, .ref m11, .int dy])), (m1, .inl (z 0, 26, .inl pl)), (m2, .inl (z 0, 26, .inl (lMsk (lGo ia ct sh) j ct 0))), (m3, .inl (z 0, 26, .inl (lMsk (lGo ia ct sh) j ti 400))), (m4, .inl (z 0, 26, .inl (lMsk (lGo ia ct sh) j sh 0))), (m5, .inl (z 1, 26, .inl (lMsk (lGo ia ct sh) j ia 0))), (m6, .inl (z 0, 676, .inl pr)), (m7, .inl (z 0, 40, .inl lt)), (m8, .inl (z 0, 40, .inl ty)), (m9, .inl (z 0, 5, .inl ek)), (m10, .inl (z 0, 8, .inl ef)), (m11, .inl (z 0, 100, .inl kp))] H → va_D A [(mx, .inr (7, [.int th, .ref m1, .ref m2, .ref m3, .ref m4, .ref m5, .ref m6, .ref m7, .ref m8, .int zz, .int po, .int ml, .int me, .ref m9, .ref m10, .int wt, .int wh, .int sn, .ref m11, .int dy])), (m1, .inl (z 0, 26, .inl pl)), (m2, .inl (z 0, 26, .inl (lMsk (lGo ia ct sh) j ct 0))), (m3, .inl (z 0, 26, .inl (lMsk (lGo ia ct sh) j ti 400))), (m4, .inl (z 0, 26, .inl (lMsk (lGo ia ct sh) j sh 0))), (m5, .inl (z 1, 26, .inl (lMsk (lGo ia ct sh) j ia 0))), (m6, .inl (z 0, 676, .inl pr)), (m7, .inl (z 0, 40, .inl lt)), (m8, .inl (z 0, 40, .inl ty)), (m9, .inl (z 0, 5, .inl ek)), (m10, .inl (z 0, 8, .inl ef)), (m11, .inl (z 0, 100, .inl kp))] → va_S A s.heap H locs → ∀ ls : Array Slot, lv_has ls 3 [(2, .int (nI j)), (1, .int x), (0, .ref mx)] → W p l e ({ frames := 0, cells := 0, slots := 0, locals := 0 } : Room) s m ([.ref mx] : List Value).toArray below meth c H locs 0 0 (MQ below (QW D [(mx, .inr (7, [.int th, .ref m1, .ref m2, .ref m3, .ref m4, .ref m5, .ref m6, .ref m7, .ref m8, .int zz, .int po, .int ml, .int me, .ref m9, .ref m10, .int wt, .int wh, .int sn, .ref m11, .int dy])), (m1, .inl (z 0, 26, .inl pl)), (m2, .inl (z 0, 26, .inl (lMsk (lGo ia ct sh) 26 ct 0))), (m3, .inl (z 0, 26, .inl (lMsk (lGo ia ct sh) 26 ti 400))), (m4, .inl (z 0, 26, .inl (lMsk (lGo ia ct sh) 26 sh 0))), (m5, .inl (z 1, 26, .inl (lMsk (lGo ia ct sh) 26 ia 0))), (m6, .inl (z 0, 676, .inl pr)), (m7, .inl (z 0, 40, .inl lt)), (m8, .inl (z 0, 40, .inl ty)), (m9, .inl (z 0, 5, .inl ek)), (m10, .inl (z 0, 8, .inl ef)), (m11, .inl (z 0, 100, .inl kp))] A (some (.int (lAny (lGo ia ct sh) 26)))) ([.ref mx] : List Value).toArray s 0 0 A) (F0 m 4 ls []) := by
    intro n
    induction n with
    | zero => intro j x h4 hj hf hxj; exact absurd hf (by omega)
    | succ n ih =>
      intro j x h4 hj hf hxj H locs hP hD hS ls hl
      refine lv_iload_n hx hb dX7_takesOut_4 rfl (lv_at hl 0 rfl) ?_
      refine lv_bipush (v := 26) hx hb dX7_takesOut_5 (by decide) ?_
      refine lv_icmp_ge (tgt := 79) hx hb dX7_takesOut_7 (by decide) (fun c_2 => ?_) (fun c_2 => ?_)
      · have hj2 : j = 26 := lpx c_2 hj (Nat.le_of_ble_eq_true rfl) rfl
        refine lv_iload_n hx hb dX7_takesOut_79 rfl (lv_at hl 1 rfl) ?_
        exact wr_z hx hb hr hlocks (by rw [hxj, hj2]; exact lAny_n _ _) hP hD hS dX7_takesOut_80 (by rw [hj2]) (by rw [hxj, hj2]) (Nat.le_refl _) (Nat.le_refl _)
      · have hjl : j < 26 := lpn c_2 hj (Nat.le_of_ble_eq_true rfl) rfl
        refine lv_aload_n hx hb dX7_takesOut_10 rfl (lv_at hl 2 rfl) ?_
        refine va_get (D := D) (ci := 7) (v := .ref m5) (C := RX7) (T := TX7) (N := 20) hx hb hts in_X7_takesOut_X7 hown hK hP 0 rfl rfl 5 (by decide) (hts (.fieldLink RX7 22 "TypingCoachModel" "areIn" "[Z") (List.mem_of_getElem? (i := 1) rfl)) (fun _ h9 => h9) rfl dX7_takesOut_11 ?_
        refine lv_iload_n hx hb dX7_takesOut_14 rfl (lv_at hl 0 rfl) ?_
        refine va_zald hx hb hK hP 5 1 rfl rfl (vp_in_nI hjl (Nat.le_of_ble_eq_true rfl)) dX7_takesOut_15 ?_
        refine lv_if_eq (tgt := 73) hx hb dX7_takesOut_16 (by decide) (fun c_3 => ?_) (fun c_3 => ?_)
        · refine lv_iinc (v := nI (j + 1)) (lv' := [(2, .int (nI (j + 1))), (1, .int x), (0, .ref mx)]) hx hb dX7_takesOut_73 hl (k := 0) rfl (nI_1 j) (by decide) rfl (fun ls hl => ?_)
          refine lv_goto (tgt := 4) hx hb dX7_takesOut_76 (by decide) ?_
          have ho : lGo ia ct sh j = false := lGo_f1 (by rw [← lIn_msk _ _ 0 hjl]; exact (zin (vp_in_nI hjl (Nat.le_of_ble_eq_true rfl))).mp c_3)
          simp only [lMsk_f ho] at hP hD
          exact ih (j + 1) x (by omega) (by omega) (by omega) (by rw [lAny_f ho]; exact hxj) _ _ hP hD hS ls (lv_sub hl [0, 1, 2] rfl)
        · refine lv_aload_n hx hb dX7_takesOut_19 rfl (lv_at hl 2 rfl) ?_
          refine va_get (D := D) (ci := 7) (v := .ref m2) (C := RX7) (T := TX7) (N := 20) hx hb hts in_X7_takesOut_X7 hown hK hP 0 rfl rfl 2 (by decide) (hts (.fieldLink RX7 13 "TypingCoachModel" "counts" "[I") (List.mem_of_getElem? (i := 2) rfl)) (fun _ h9 => h9) rfl dX7_takesOut_20 ?_
          refine lv_iload_n hx hb dX7_takesOut_23 rfl (lv_at hl 0 rfl) ?_
          refine mIald hx hb hK hP 2 0 rfl rfl (Nat.le_of_ble_eq_true rfl) (vp_in_nI hjl (Nat.le_of_ble_eq_true rfl)) dX7_takesOut_24 ?_
          refine lv_iconst (v := 3) hx hb dX7_takesOut_25 (by decide) ?_
          refine lv_icmp_lt (tgt := 73) hx hb dX7_takesOut_26 (by decide) (fun c_5 => ?_) (fun c_5 => ?_)
          · refine lv_iinc (v := nI (j + 1)) (lv' := [(2, .int (nI (j + 1))), (1, .int x), (0, .ref mx)]) hx hb dX7_takesOut_73 hl (k := 0) rfl (nI_1 j) (by decide) rfl (fun ls hl => ?_)
            refine lv_goto (tgt := 4) hx hb dX7_takesOut_76 (by decide) ?_
            have ho : lGo ia ct sh j = false := lGo_f2 (by rw [← fOut_msk (lGo ia ct sh) ct sh 0 0 hjl]; simp only [fOut, if_pos c_5])
            simp only [lMsk_f ho] at hP hD
            exact ih (j + 1) x (by omega) (by omega) (by omega) (by rw [lAny_f ho]; exact hxj) _ _ hP hD hS ls (lv_sub hl [0, 1, 2] rfl)
          · refine lv_aload_n hx hb dX7_takesOut_29 rfl (lv_at hl 2 rfl) ?_
            refine va_get (D := D) (ci := 7) (v := .ref m4) (C := RX7) (T := TX7) (N := 20) hx hb hts in_X7_takesOut_X7 hown hK hP 0 rfl rfl 4 (by decide) (hts (.fieldLink RX7 19 "TypingCoachModel" "shares" "[I") (List.mem_of_getElem? (i := 3) rfl)) (fun _ h9 => h9) rfl dX7_takesOut_30 ?_
            refine lv_iload_n hx hb dX7_takesOut_33 rfl (lv_at hl 0 rfl) ?_
            refine mIald hx hb hK hP 4 0 rfl rfl (Nat.le_of_ble_eq_true rfl) (vp_in_nI hjl (Nat.le_of_ble_eq_true rfl)) dX7_takesOut_34 ?_
            refine lv_sipush (v := 5000) hx hb dX7_takesOut_35 (by decide) ?_
            refine lv_icmp_le (tgt := 73) hx hb dX7_takesOut_38 (by decide) (fun c_7 => ?_) (fun c_7 => ?_)
            · refine lv_iinc (v := nI (j + 1)) (lv' := [(2, .int (nI (j + 1))), (1, .int x), (0, .ref mx)]) hx hb dX7_takesOut_73 hl (k := 0) rfl (nI_1 j) (by decide) rfl (fun ls hl => ?_)
              refine lv_goto (tgt := 4) hx hb dX7_takesOut_76 (by decide) ?_
              have ho : lGo ia ct sh j = false := lGo_f2 (by rw [← fOut_msk (lGo ia ct sh) ct sh 0 0 hjl]; simp only [fOut, if_neg c_5, if_pos c_7])
              simp only [lMsk_f ho] at hP hD
              exact ih (j + 1) x (by omega) (by omega) (by omega) (by rw [lAny_f ho]; exact hxj) _ _ hP hD hS ls (lv_sub hl [0, 1, 2] rfl)
            · refine lv_aload_n hx hb dX7_takesOut_41 rfl (lv_at hl 2 rfl) ?_
              refine va_get (D := D) (ci := 7) (v := .ref m5) (C := RX7) (T := TX7) (N := 20) hx hb hts in_X7_takesOut_X7 hown hK hP 0 rfl rfl 5 (by decide) (hts (.fieldLink RX7 22 "TypingCoachModel" "areIn" "[Z") (List.mem_of_getElem? (i := 1) rfl)) (fun _ h9 => h9) rfl dX7_takesOut_42 ?_
              refine lv_iload_n hx hb dX7_takesOut_45 rfl (lv_at hl 0 rfl) ?_
              refine lv_iconst (v := 0) hx hb dX7_takesOut_46 (by decide) ?_
              refine va_zast hx hb hK hP hD hS 5 1 rfl rfl (vp_in_nI hjl (Nat.le_of_ble_eq_true rfl)) dX7_takesOut_47 (fun H locs hP hD hS => ?_)
              have hP : va_P D vwCl [(mx, .inr (7, [.int th, .ref m1, .ref m2, .ref m3, .ref m4, .ref m5, .ref m6, .ref m7, .ref m8, .int zz, .int po, .int ml, .int me, .ref m9, .ref m10, .int wt, .int wh, .int sn, .ref m11, .int dy])), (m1, .inl (z 0, 26, .inl pl)), (m2, .inl (z 0, 26, .inl (lMsk (lGo ia ct sh) j ct 0))), (m3, .inl (z 0, 26, .inl (lMsk (lGo ia ct sh) j ti 400))), (m4, .inl (z 0, 26, .inl (lMsk (lGo ia ct sh) j sh 0))), (m5, .inl (z 1, 26, .inl (upd (lMsk (lGo ia ct sh) j ia 0) (nI j).toNatClampNeg (vp_nar .boolean 0)))), (m6, .inl (z 0, 676, .inl pr)), (m7, .inl (z 0, 40, .inl lt)), (m8, .inl (z 0, 40, .inl ty)), (m9, .inl (z 0, 5, .inl ek)), (m10, .inl (z 0, 8, .inl ef)), (m11, .inl (z 0, 100, .inl kp))] H := hP
              have hD : va_D A [(mx, .inr (7, [.int th, .ref m1, .ref m2, .ref m3, .ref m4, .ref m5, .ref m6, .ref m7, .ref m8, .int zz, .int po, .int ml, .int me, .ref m9, .ref m10, .int wt, .int wh, .int sn, .ref m11, .int dy])), (m1, .inl (z 0, 26, .inl pl)), (m2, .inl (z 0, 26, .inl (lMsk (lGo ia ct sh) j ct 0))), (m3, .inl (z 0, 26, .inl (lMsk (lGo ia ct sh) j ti 400))), (m4, .inl (z 0, 26, .inl (lMsk (lGo ia ct sh) j sh 0))), (m5, .inl (z 1, 26, .inl (upd (lMsk (lGo ia ct sh) j ia 0) (nI j).toNatClampNeg (vp_nar .boolean 0)))), (m6, .inl (z 0, 676, .inl pr)), (m7, .inl (z 0, 40, .inl lt)), (m8, .inl (z 0, 40, .inl ty)), (m9, .inl (z 0, 5, .inl ek)), (m10, .inl (z 0, 8, .inl ef)), (m11, .inl (z 0, 100, .inl kp))] := hD
              refine lv_aload_n hx hb dX7_takesOut_48 rfl (lv_at hl 2 rfl) ?_
              refine va_get (D := D) (ci := 7) (v := .ref m2) (C := RX7) (T := TX7) (N := 20) hx hb hts in_X7_takesOut_X7 hown hK hP 0 rfl rfl 2 (by decide) (hts (.fieldLink RX7 13 "TypingCoachModel" "counts" "[I") (List.mem_of_getElem? (i := 2) rfl)) (fun _ h9 => h9) rfl dX7_takesOut_49 ?_
              refine lv_iload_n hx hb dX7_takesOut_52 rfl (lv_at hl 0 rfl) ?_
              refine lv_iconst (v := 0) hx hb dX7_takesOut_53 (by decide) ?_
              refine mIast hx hb hK hP hD hS 2 0 rfl rfl (Nat.le_of_ble_eq_true rfl) (vp_in_nI hjl (Nat.le_of_ble_eq_true rfl)) dX7_takesOut_54 (fun H locs hP hD hS => ?_)
              have hP : va_P D vwCl [(mx, .inr (7, [.int th, .ref m1, .ref m2, .ref m3, .ref m4, .ref m5, .ref m6, .ref m7, .ref m8, .int zz, .int po, .int ml, .int me, .ref m9, .ref m10, .int wt, .int wh, .int sn, .ref m11, .int dy])), (m1, .inl (z 0, 26, .inl pl)), (m2, .inl (z 0, 26, .inl (cSet 26 (lMsk (lGo ia ct sh) j ct 0) (nI j) 0))), (m3, .inl (z 0, 26, .inl (lMsk (lGo ia ct sh) j ti 400))), (m4, .inl (z 0, 26, .inl (lMsk (lGo ia ct sh) j sh 0))), (m5, .inl (z 1, 26, .inl (upd (lMsk (lGo ia ct sh) j ia 0) (nI j).toNatClampNeg (vp_nar .boolean 0)))), (m6, .inl (z 0, 676, .inl pr)), (m7, .inl (z 0, 40, .inl lt)), (m8, .inl (z 0, 40, .inl ty)), (m9, .inl (z 0, 5, .inl ek)), (m10, .inl (z 0, 8, .inl ef)), (m11, .inl (z 0, 100, .inl kp))] H := hP
              have hD : va_D A [(mx, .inr (7, [.int th, .ref m1, .ref m2, .ref m3, .ref m4, .ref m5, .ref m6, .ref m7, .ref m8, .int zz, .int po, .int ml, .int me, .ref m9, .ref m10, .int wt, .int wh, .int sn, .ref m11, .int dy])), (m1, .inl (z 0, 26, .inl pl)), (m2, .inl (z 0, 26, .inl (cSet 26 (lMsk (lGo ia ct sh) j ct 0) (nI j) 0))), (m3, .inl (z 0, 26, .inl (lMsk (lGo ia ct sh) j ti 400))), (m4, .inl (z 0, 26, .inl (lMsk (lGo ia ct sh) j sh 0))), (m5, .inl (z 1, 26, .inl (upd (lMsk (lGo ia ct sh) j ia 0) (nI j).toNatClampNeg (vp_nar .boolean 0)))), (m6, .inl (z 0, 676, .inl pr)), (m7, .inl (z 0, 40, .inl lt)), (m8, .inl (z 0, 40, .inl ty)), (m9, .inl (z 0, 5, .inl ek)), (m10, .inl (z 0, 8, .inl ef)), (m11, .inl (z 0, 100, .inl kp))] := hD
              refine lv_aload_n hx hb dX7_takesOut_55 rfl (lv_at hl 2 rfl) ?_
              refine va_get (D := D) (ci := 7) (v := .ref m4) (C := RX7) (T := TX7) (N := 20) hx hb hts in_X7_takesOut_X7 hown hK hP 0 rfl rfl 4 (by decide) (hts (.fieldLink RX7 19 "TypingCoachModel" "shares" "[I") (List.mem_of_getElem? (i := 3) rfl)) (fun _ h9 => h9) rfl dX7_takesOut_56 ?_
              refine lv_iload_n hx hb dX7_takesOut_59 rfl (lv_at hl 0 rfl) ?_
              refine lv_iconst (v := 0) hx hb dX7_takesOut_60 (by decide) ?_
              refine mIast hx hb hK hP hD hS 4 0 rfl rfl (Nat.le_of_ble_eq_true rfl) (vp_in_nI hjl (Nat.le_of_ble_eq_true rfl)) dX7_takesOut_61 (fun H locs hP hD hS => ?_)
              have hP : va_P D vwCl [(mx, .inr (7, [.int th, .ref m1, .ref m2, .ref m3, .ref m4, .ref m5, .ref m6, .ref m7, .ref m8, .int zz, .int po, .int ml, .int me, .ref m9, .ref m10, .int wt, .int wh, .int sn, .ref m11, .int dy])), (m1, .inl (z 0, 26, .inl pl)), (m2, .inl (z 0, 26, .inl (cSet 26 (lMsk (lGo ia ct sh) j ct 0) (nI j) 0))), (m3, .inl (z 0, 26, .inl (lMsk (lGo ia ct sh) j ti 400))), (m4, .inl (z 0, 26, .inl (cSet 26 (lMsk (lGo ia ct sh) j sh 0) (nI j) 0))), (m5, .inl (z 1, 26, .inl (upd (lMsk (lGo ia ct sh) j ia 0) (nI j).toNatClampNeg (vp_nar .boolean 0)))), (m6, .inl (z 0, 676, .inl pr)), (m7, .inl (z 0, 40, .inl lt)), (m8, .inl (z 0, 40, .inl ty)), (m9, .inl (z 0, 5, .inl ek)), (m10, .inl (z 0, 8, .inl ef)), (m11, .inl (z 0, 100, .inl kp))] H := hP
              have hD : va_D A [(mx, .inr (7, [.int th, .ref m1, .ref m2, .ref m3, .ref m4, .ref m5, .ref m6, .ref m7, .ref m8, .int zz, .int po, .int ml, .int me, .ref m9, .ref m10, .int wt, .int wh, .int sn, .ref m11, .int dy])), (m1, .inl (z 0, 26, .inl pl)), (m2, .inl (z 0, 26, .inl (cSet 26 (lMsk (lGo ia ct sh) j ct 0) (nI j) 0))), (m3, .inl (z 0, 26, .inl (lMsk (lGo ia ct sh) j ti 400))), (m4, .inl (z 0, 26, .inl (cSet 26 (lMsk (lGo ia ct sh) j sh 0) (nI j) 0))), (m5, .inl (z 1, 26, .inl (upd (lMsk (lGo ia ct sh) j ia 0) (nI j).toNatClampNeg (vp_nar .boolean 0)))), (m6, .inl (z 0, 676, .inl pr)), (m7, .inl (z 0, 40, .inl lt)), (m8, .inl (z 0, 40, .inl ty)), (m9, .inl (z 0, 5, .inl ek)), (m10, .inl (z 0, 8, .inl ef)), (m11, .inl (z 0, 100, .inl kp))] := hD
              refine lv_aload_n hx hb dX7_takesOut_62 rfl (lv_at hl 2 rfl) ?_
              refine va_get (D := D) (ci := 7) (v := .ref m3) (C := RX7) (T := TX7) (N := 20) hx hb hts in_X7_takesOut_X7 hown hK hP 0 rfl rfl 3 (by decide) (hts (.fieldLink RX7 16 "TypingCoachModel" "times" "[I") (List.mem_of_getElem? (i := 4) rfl)) (fun _ h9 => h9) rfl dX7_takesOut_63 ?_
              refine lv_iload_n hx hb dX7_takesOut_66 rfl (lv_at hl 0 rfl) ?_
              refine lv_sipush (v := 400) hx hb dX7_takesOut_67 (by decide) ?_
              refine mIast hx hb hK hP hD hS 3 0 rfl rfl (Nat.le_of_ble_eq_true rfl) (vp_in_nI hjl (Nat.le_of_ble_eq_true rfl)) dX7_takesOut_70 (fun H locs hP hD hS => ?_)
              have hP : va_P D vwCl [(mx, .inr (7, [.int th, .ref m1, .ref m2, .ref m3, .ref m4, .ref m5, .ref m6, .ref m7, .ref m8, .int zz, .int po, .int ml, .int me, .ref m9, .ref m10, .int wt, .int wh, .int sn, .ref m11, .int dy])), (m1, .inl (z 0, 26, .inl pl)), (m2, .inl (z 0, 26, .inl (cSet 26 (lMsk (lGo ia ct sh) j ct 0) (nI j) 0))), (m3, .inl (z 0, 26, .inl (cSet 26 (lMsk (lGo ia ct sh) j ti 400) (nI j) 400))), (m4, .inl (z 0, 26, .inl (cSet 26 (lMsk (lGo ia ct sh) j sh 0) (nI j) 0))), (m5, .inl (z 1, 26, .inl (upd (lMsk (lGo ia ct sh) j ia 0) (nI j).toNatClampNeg (vp_nar .boolean 0)))), (m6, .inl (z 0, 676, .inl pr)), (m7, .inl (z 0, 40, .inl lt)), (m8, .inl (z 0, 40, .inl ty)), (m9, .inl (z 0, 5, .inl ek)), (m10, .inl (z 0, 8, .inl ef)), (m11, .inl (z 0, 100, .inl kp))] H := hP
              have hD : va_D A [(mx, .inr (7, [.int th, .ref m1, .ref m2, .ref m3, .ref m4, .ref m5, .ref m6, .ref m7, .ref m8, .int zz, .int po, .int ml, .int me, .ref m9, .ref m10, .int wt, .int wh, .int sn, .ref m11, .int dy])), (m1, .inl (z 0, 26, .inl pl)), (m2, .inl (z 0, 26, .inl (cSet 26 (lMsk (lGo ia ct sh) j ct 0) (nI j) 0))), (m3, .inl (z 0, 26, .inl (cSet 26 (lMsk (lGo ia ct sh) j ti 400) (nI j) 400))), (m4, .inl (z 0, 26, .inl (cSet 26 (lMsk (lGo ia ct sh) j sh 0) (nI j) 0))), (m5, .inl (z 1, 26, .inl (upd (lMsk (lGo ia ct sh) j ia 0) (nI j).toNatClampNeg (vp_nar .boolean 0)))), (m6, .inl (z 0, 676, .inl pr)), (m7, .inl (z 0, 40, .inl lt)), (m8, .inl (z 0, 40, .inl ty)), (m9, .inl (z 0, 5, .inl ek)), (m10, .inl (z 0, 8, .inl ef)), (m11, .inl (z 0, 100, .inl kp))] := hD
              refine lv_iconst (v := 1) hx hb dX7_takesOut_71 (by decide) ?_
              refine lv_istore_n (lv' := [(1, .int 1), (2, .int (nI j)), (0, .ref mx)]) hx hb dX7_takesOut_72 rfl hl (by decide) rfl (fun ls hl => ?_)
              refine lv_iinc (v := nI (j + 1)) (lv' := [(2, .int (nI (j + 1))), (1, .int 1), (0, .ref mx)]) hx hb dX7_takesOut_73 hl (k := 1) rfl (nI_1 j) (by decide) rfl (fun ls hl => ?_)
              refine lv_goto (tgt := 4) hx hb dX7_takesOut_76 (by decide) ?_
              have ho : lGo ia ct sh j = true := lGo_t (fun h9 => c_3 ((zin (vp_in_nI hjl (Nat.le_of_ble_eq_true rfl))).mpr (by rw [lIn_msk _ _ 0 hjl]; exact h9))) (by rw [← fOut_msk (lGo ia ct sh) ct sh 0 0 hjl]; simp only [fOut, if_neg c_5, if_neg c_7]; decide)
              simp only [cSet_nI _ _ hjl (Nat.le_of_ble_eq_true rfl : 26 < 2 ^ 31), nI_clamp (i26 hjl), nz0, lMsk_t ho h4] at hP hD
              exact ih (j + 1) 1 (by omega) (by omega) (by omega) (lAny_t ho h4 |>.symm) _ _ hP hD hS ls (lv_sub hl [0, 1, 2] rfl)
  exact loop_1 23 4 0 (by omega) (by omega) (by omega) (lAny_4 _).symm _ _ (by simp only [lMsk_4]; exact hP) (by simp only [lMsk_4]; exact hD) hS ls (lv_sub hl [0, 1, 2] rfl)
