/-! ===== Arrays.fill, Figures, Lesson, Speeds ===== -/
theorem hd_J7_fill_53178 : yJ7_fill_53178.cls ≠ "java/lang/invoke/MethodHandle" ∧ yJ7_fill_53178.cls ≠ "java/lang/invoke/VarHandle" ∧ (parseMethodDescriptor yJ7_fill_53178.desc).map (fun d => d.parameters.length) = some 2 := by decide +kernel
set_option maxHeartbeats 4000000 in
set_option maxRecDepth 100000 in
theorem c_J7_fill_53178 (l : Launch) (D : va_G) (z : Nat → ClassId) (q : Nat → Nat) (a : Nat) (nf : Nat) (f : Nat → Int32) (x : Int32) (sz : Nat) (hn : nf < 2 ^ 31) : WR l yJ7_fill_53178 wsJ7_fill_53178 ({ frames := 0, cells := 0, slots := 0, locals := 0 } : Room) D z q [.ref a, .int x] [(a, .inl (z 0, nf, .inl f))] sz [(a, .inl (z 0, nf, .inl (fFill f x nf)))] none := by
  refine WR_mk (Qc := fun A => QW D [(a, .inl (z 0, nf, .inl (fFill f x nf)))] A none) (cc := cJ7_fill_53178) (maxL := 4) (ret := none) (by decide) rfl (Nat.le_of_ble_eq_true rfl) ?_
  intro p e s m below meth c A hx hb hr hml hts hown hlocks hin0 H hP hD hE hS hA ls hl
  have hK := hE.1
  have hown : s.vm.findClass RJ7 = some m.cls := hown
  have hl : lv_has ls 4 [(0, .ref a), (1, .int x)] := hl
  refine lv_iconst (v := 0) hx hb dJ7_fill_53178_0 (by decide) ?_
  refine lv_istore_n (lv' := [(2, .int 0), (0, .ref a), (1, .int x)]) hx hb dJ7_fill_53178_1 rfl hl (by decide) rfl (fun ls hl => ?_)
  refine lv_aload_n hx hb dJ7_fill_53178_2 rfl (lv_at hl 1 rfl) ?_
  refine va_alen (v := nI nf) hx hb hK hP 0 0 rfl rfl rfl dJ7_fill_53178_3 ?_
  refine lv_istore_n (lv' := [(3, .int (nI nf)), (2, .int 0), (0, .ref a), (1, .int x)]) hx hb dJ7_fill_53178_4 rfl hl (by decide) rfl (fun ls hl => ?_)
  have loop_1 : ∀ (n : Nat) (j : Nat), j ≤ nf → nf < j + n → ∀ (H : Heap) (locs : List Loc), va_P D vwCl [(a, .inl (z 0, nf, .inl (fFill f x j)))] H → va_D A [(a, .inl (z 0, nf, .inl (fFill f x j)))] → va_S A s.heap H locs → ∀ ls : Array Slot, lv_has ls 4 [(2, .int (nI j)), (0, .ref a), (1, .int x), (3, .int (nI nf))] → W p l e ({ frames := 0, cells := 0, slots := 0, locals := 0 } : Room) s m ([.ref a, .int x] : List Value).toArray below meth c H locs 0 0 (MQ below (QW D [(a, .inl (z 0, nf, .inl (fFill f x nf)))] A none) ([.ref a, .int x] : List Value).toArray s 0 0 A) (F0 m 5 ls []) := by
    intro n
    induction n with
    | zero => intro j hj hf; exact absurd hf (by omega)
    | succ n ih =>
      intro j hj hf H locs hP hD hS ls hl
      refine lv_iload_n hx hb dJ7_fill_53178_5 rfl (lv_at hl 0 rfl) ?_
      refine lv_iload_n hx hb dJ7_fill_53178_6 rfl (lv_at hl 3 rfl) ?_
      refine lv_icmp_ge (tgt := 20) hx hb dJ7_fill_53178_7 (by decide) (fun c_2 => ?_) (fun c_2 => ?_)
      · have hj2 : j = nf := lpx c_2 hj hn rfl
        exact wr_v hx hb hr hlocks hP hD hS dJ7_fill_53178_20 (by rw [hj2]) (Nat.le_refl _) (Nat.le_refl _)
      · have hjl : j < nf := lpn c_2 hj hn rfl
        refine lv_aload_n hx hb dJ7_fill_53178_10 rfl (lv_at hl 1 rfl) ?_
        refine lv_iload_n hx hb dJ7_fill_53178_11 rfl (lv_at hl 0 rfl) ?_
        refine lv_iload_n hx hb dJ7_fill_53178_12 rfl (lv_at hl 2 rfl) ?_
        refine va_iast hx hb hK hP hD hS 0 0 rfl rfl (vp_in_nI hjl hn) dJ7_fill_53178_13 (fun H locs hP hD hS => ?_)
        have hP : va_P D vwCl [(a, .inl (z 0, nf, .inl (upd (fFill f x j) (nI j).toNatClampNeg x)))] H := hP
        have hD : va_D A [(a, .inl (z 0, nf, .inl (upd (fFill f x j) (nI j).toNatClampNeg x)))] := hD
        refine lv_iinc (v := nI (j + 1)) (lv' := [(2, .int (nI (j + 1))), (0, .ref a), (1, .int x), (3, .int (nI nf))]) hx hb dJ7_fill_53178_14 hl (k := 0) rfl (nI_1 j) (by decide) rfl (fun ls hl => ?_)
        refine lv_goto (tgt := 5) hx hb dJ7_fill_53178_17 (by decide) ?_
        rw [show nI j = nI j from rfl, nI_clamp (Nat.lt_trans hjl hn), fFill_s] at hP hD
        exact ih (j + 1) (by omega) (by omega) _ _ hP hD hS ls (lv_sub hl [0, 1, 2, 3] rfl)
  exact loop_1 (nf + 1) 0 (Nat.zero_le _) (by omega) _ _ (by rw [fFill_0]; exact hP) (by rw [fFill_0]; exact hD) hS ls (lv_sub hl [1, 2, 3, 0] rfl)
theorem hd_X2_aged : yX2_aged.cls ≠ "java/lang/invoke/MethodHandle" ∧ yX2_aged.cls ≠ "java/lang/invoke/VarHandle" ∧ (parseMethodDescriptor yX2_aged.desc).map (fun d => d.parameters.length) = some 2 := by decide +kernel
set_option maxHeartbeats 4000000 in
set_option maxRecDepth 100000 in
theorem c_X2_aged (l : Launch) (D : va_G) (z : Nat → ClassId) (q : Nat → Nat) (t : Int32) (mo : Int32)  : RD l yX2_aged wsX2_aged ({ frames := 0, cells := 0, slots := 0, locals := 0 } : Room) D z q [.int t, .int mo] [] (some (.int (fAged t mo))) := by
  refine RD_mk (cc := cX2_aged) (maxL := 2) (ret := (some .int)) (by decide) rfl (Nat.le_of_ble_eq_true rfl) ?_
  intro p e s m below meth c hx hb hr hml hts hown hlocks hP hE hS hA ls hl
  have hK := hE.1
  have hown : s.vm.findClass RX2 = some m.cls := hown
  have hl : lv_has ls 2 [(0, .int t), (1, .int mo)] := hl
  refine lv_iconst (v := 3) hx hb dX2_aged_0 (by decide) ?_
  refine lv_iload_n hx hb dX2_aged_1 rfl (lv_at hl 0 rfl) ?_
  refine lv_imul hx hb dX2_aged_2 ?_
  refine lv_iload_n hx hb dX2_aged_3 rfl (lv_at hl 1 rfl) ?_
  refine lv_iadd hx hb dX2_aged_4 ?_
  refine lv_iconst (v := 4) hx hb dX2_aged_5 (by decide) ?_
  refine lv_idiv hx hb dX2_aged_6 (by decide) ?_
  exact rd_i hx hb hr hlocks dX2_aged_7 (rfl)
theorem hd_X2_pairOf : yX2_pairOf.cls ≠ "java/lang/invoke/MethodHandle" ∧ yX2_pairOf.cls ≠ "java/lang/invoke/VarHandle" ∧ (parseMethodDescriptor yX2_pairOf.desc).map (fun d => d.parameters.length) = some 2 := by decide +kernel
set_option maxHeartbeats 4000000 in
set_option maxRecDepth 100000 in
theorem c_X2_pairOf (l : Launch) (D : va_G) (z : Nat → ClassId) (q : Nat → Nat) (i : Int32) (j : Int32)  : RD l yX2_pairOf wsX2_pairOf ({ frames := 0, cells := 0, slots := 0, locals := 0 } : Room) D z q [.int i, .int j] [] (some (.int (fPair i j))) := by
  refine RD_mk (cc := cX2_pairOf) (maxL := 2) (ret := (some .int)) (by decide) rfl (Nat.le_of_ble_eq_true rfl) ?_
  intro p e s m below meth c hx hb hr hml hts hown hlocks hP hE hS hA ls hl
  have hK := hE.1
  have hown : s.vm.findClass RX2 = some m.cls := hown
  have hl : lv_has ls 2 [(0, .int i), (1, .int j)] := hl
  refine lv_iload_n hx hb dX2_pairOf_0 rfl (lv_at hl 0 rfl) ?_
  refine lv_bipush (v := 26) hx hb dX2_pairOf_1 (by decide) ?_
  refine lv_imul hx hb dX2_pairOf_3 ?_
  refine lv_iload_n hx hb dX2_pairOf_4 rfl (lv_at hl 1 rfl) ?_
  refine lv_iadd hx hb dX2_pairOf_5 ?_
  exact rd_i hx hb hr hlocks dX2_pairOf_6 (rfl)
set_option maxRecDepth 20000 in
theorem in_X2_timeOfPair_X2 : ∀ w ∈ wsX20, w ∈ wsX2_timeOfPair := mem_r _ [12, 13, 14, 15, 16, 17] (by decide +kernel)
theorem hd_X2_timeOfPair : yX2_timeOfPair.cls = RX2 ∧ yX2_timeOfPair.cls ≠ "java/lang/invoke/MethodHandle" ∧ yX2_timeOfPair.cls ≠ "java/lang/invoke/VarHandle" ∧ (parseMethodDescriptor yX2_timeOfPair.desc).map (fun d => d.parameters.length) = some 2 := by decide +kernel
set_option maxHeartbeats 4000000 in
set_option maxRecDepth 100000 in
theorem c_X2_timeOfPair (l : Launch) (D : va_G) (z : Nat → ClassId) (q : Nat → Nat) (h : Nat) (c1 : Nat) (v1 : Nat) (c2 : Nat) (v2 : Nat) (c3 : Nat) (v3 : Nat) (c4 : Nat) (v4 : Nat) (ct : Nat → Int32) (ti : Nat → Int32) (sh : Nat → Int32) (pr : Nat → Int32) (wt : Int32) (wh : Int32) (i : Int32) (j : Int32)  : RD l yX2_timeOfPair wsX2_timeOfPair ({ frames := 1, cells := 0, slots := 0, locals := 21 } : Room) D z q [.ref h, .int i, .int j] [(h, .inr (2, [.ref c1, .ref c2, .ref c3, .ref c4, .int wt, .int wh])), (c1, .inr (1, [.ref v1])), (v1, .inl (z 0, 26, .inl ct)), (c2, .inr (1, [.ref v2])), (v2, .inl (z 0, 26, .inl ti)), (c3, .inr (1, [.ref v3])), (v3, .inl (z 0, 26, .inl sh)), (c4, .inr (1, [.ref v4])), (v4, .inl (z 0, 676, .inl pr))] (some (.int (cAt 676 pr (fPair i j)))) := by
  refine RD_mk (cc := cX2_timeOfPair) (maxL := 3) (ret := (some .int)) (by decide) rfl (Nat.le_of_ble_eq_true rfl) ?_
  intro p e s m below meth c hx hb hr hml hts hown hlocks hP hE hS hA ls hl
  have hK := hE.1
  have hown : s.vm.findClass RX2 = some m.cls := hown
  have hl : lv_has ls 3 [(0, .ref h), (1, .int i), (2, .int j)] := hl
  refine lv_aload_n hx hb dX2_timeOfPair_0 rfl (lv_at hl 0 rfl) ?_
  refine va_get (D := D) (ci := 2) (v := .ref c4) (C := RX2) (T := TX2) (N := 6) hx hb hts in_X2_timeOfPair_X2 hown hK hP 0 rfl rfl 3 (by decide) (hts (.fieldLink RX2 26 "TypingCoach$Figures" "pairTimes" "LTypingCoach$Cells;") (List.mem_of_getElem? (i := 1) rfl)) (fun _ h9 => h9) rfl dX2_timeOfPair_1 ?_
  refine lv_iload_n hx hb dX2_timeOfPair_4 rfl (lv_at hl 1 rfl) ?_
  refine lv_iload_n hx hb dX2_timeOfPair_5 rfl (lv_at hl 2 rfl) ?_
  refine rdS (As := [.int i, .int j]) (rest := [.ref c4]) ⟨hx, hb, hml, hown, hts⟩ (c_X2_pairOf l D z q i j) (va_cwS 2 hts gX2_timeOfPair_X2_pairOf rfl rfl rfl hd_X2_pairOf ⟨Nat.le_of_ble_eq_true rfl, Nat.le_of_ble_eq_true rfl⟩) hE hS hA hP [] rfl rfl hl.1 rfl (Nat.le_of_ble_eq_true rfl) dX2_timeOfPair_6 ⟨(Nat.le_of_ble_eq_true rfl), (Nat.le_of_ble_eq_true rfl)⟩ ?_
  refine rdV (As := [.int (fPair i j)]) (rest := []) ⟨hx, hb, hml, hown, hts⟩ (c_X1_at l D z q c4 v4 676 pr (fPair i j) (Nat.le_of_ble_eq_true rfl)) (cwV 1 hts gX2_timeOfPair_X1_at rfl rfl rfl hd_X1_at ⟨Nat.le_of_ble_eq_true rfl, Nat.le_of_ble_eq_true rfl⟩) hE hS hA hP [7, 8] rfl rfl rfl rfl rfl hl.1 rfl (Nat.le_of_ble_eq_true rfl) dX2_timeOfPair_9 ⟨(Nat.le_of_ble_eq_true rfl), (Nat.le_of_ble_eq_true rfl)⟩ ?_
  exact rd_i hx hb hr hlocks dX2_timeOfPair_12 (rfl)
set_option maxRecDepth 20000 in
theorem in_X2_fulfilsWish_X2 : ∀ w ∈ wsX20, w ∈ wsX2_fulfilsWish := mem_r _ [12, 13, 14, 15, 16, 17] (by decide +kernel)
theorem hd_X2_fulfilsWish : yX2_fulfilsWish.cls = RX2 ∧ yX2_fulfilsWish.cls ≠ "java/lang/invoke/MethodHandle" ∧ yX2_fulfilsWish.cls ≠ "java/lang/invoke/VarHandle" ∧ (parseMethodDescriptor yX2_fulfilsWish.desc).map (fun d => d.parameters.length) = some 1 := by decide +kernel
set_option maxHeartbeats 4000000 in
set_option maxRecDepth 100000 in
theorem c_X2_fulfilsWish (l : Launch) (D : va_G) (z : Nat → ClassId) (q : Nat → Nat) (h : Nat) (c1 : Nat) (v1 : Nat) (c2 : Nat) (v2 : Nat) (c3 : Nat) (v3 : Nat) (c4 : Nat) (v4 : Nat) (ct : Nat → Int32) (ti : Nat → Int32) (sh : Nat → Int32) (pr : Nat → Int32) (wt : Int32) (wh : Int32) (i : Int32)  : RD l yX2_fulfilsWish wsX2_fulfilsWish ({ frames := 1, cells := 0, slots := 0, locals := 21 } : Room) D z q [.ref h, .int i] [(h, .inr (2, [.ref c1, .ref c2, .ref c3, .ref c4, .int wt, .int wh])), (c1, .inr (1, [.ref v1])), (v1, .inl (z 0, 26, .inl ct)), (c2, .inr (1, [.ref v2])), (v2, .inl (z 0, 26, .inl ti)), (c3, .inr (1, [.ref v3])), (v3, .inl (z 0, 26, .inl sh)), (c4, .inr (1, [.ref v4])), (v4, .inl (z 0, 676, .inl pr))] (some (.int (fGood ct ti sh wt wh i))) := by
  refine RD_mk (cc := cX2_fulfilsWish) (maxL := 2) (ret := (some .boolean)) (by decide) rfl (Nat.le_of_ble_eq_true rfl) ?_
  intro p e s m below meth c hx hb hr hml hts hown hlocks hP hE hS hA ls hl
  have hK := hE.1
  have hown : s.vm.findClass RX2 = some m.cls := hown
  have hl : lv_has ls 2 [(0, .ref h), (1, .int i)] := hl
  refine lv_aload_n hx hb dX2_fulfilsWish_0 rfl (lv_at hl 0 rfl) ?_
  refine va_get (D := D) (ci := 2) (v := .ref c1) (C := RX2) (T := TX2) (N := 6) hx hb hts in_X2_fulfilsWish_X2 hown hK hP 0 rfl rfl 0 (by decide) (hts (.fieldLink RX2 14 "TypingCoach$Figures" "counts" "LTypingCoach$Cells;") (List.mem_of_getElem? (i := 1) rfl)) (fun _ h9 => h9) rfl dX2_fulfilsWish_1 ?_
  refine lv_iload_n hx hb dX2_fulfilsWish_4 rfl (lv_at hl 1 rfl) ?_
  refine rdV (As := [.int i]) (rest := []) ⟨hx, hb, hml, hown, hts⟩ (c_X1_at l D z q c1 v1 26 ct i (Nat.le_of_ble_eq_true rfl)) (cwV 1 hts gX2_fulfilsWish_X1_at rfl rfl rfl hd_X1_at ⟨Nat.le_of_ble_eq_true rfl, Nat.le_of_ble_eq_true rfl⟩) hE hS hA hP [1, 2] rfl rfl rfl rfl rfl hl.1 rfl (Nat.le_of_ble_eq_true rfl) dX2_fulfilsWish_5 ⟨(Nat.le_of_ble_eq_true rfl), (Nat.le_of_ble_eq_true rfl)⟩ ?_
  refine lv_iconst (v := 3) hx hb dX2_fulfilsWish_8 (by decide) ?_
  refine lv_icmp_lt (tgt := 46) hx hb dX2_fulfilsWish_9 (by decide) (fun c_1 => ?_) (fun c_1 => ?_)
  · refine lv_iconst (v := 0) hx hb dX2_fulfilsWish_46 (by decide) ?_
    exact rd_z hx hb hr hlocks dX2_fulfilsWish_47 (by decide) (by simp only [fGood, if_pos c_1, ↓reduceIte])
  · refine lv_aload_n hx hb dX2_fulfilsWish_12 rfl (lv_at hl 0 rfl) ?_
    refine va_get (D := D) (ci := 2) (v := .ref c2) (C := RX2) (T := TX2) (N := 6) hx hb hts in_X2_fulfilsWish_X2 hown hK hP 0 rfl rfl 1 (by decide) (hts (.fieldLink RX2 20 "TypingCoach$Figures" "times" "LTypingCoach$Cells;") (List.mem_of_getElem? (i := 2) rfl)) (fun _ h9 => h9) rfl dX2_fulfilsWish_13 ?_
    refine lv_iload_n hx hb dX2_fulfilsWish_16 rfl (lv_at hl 1 rfl) ?_
    refine rdV (As := [.int i]) (rest := []) ⟨hx, hb, hml, hown, hts⟩ (c_X1_at l D z q c2 v2 26 ti i (Nat.le_of_ble_eq_true rfl)) (cwV 1 hts gX2_fulfilsWish_X1_at rfl rfl rfl hd_X1_at ⟨Nat.le_of_ble_eq_true rfl, Nat.le_of_ble_eq_true rfl⟩) hE hS hA hP [3, 4] rfl rfl rfl rfl rfl hl.1 rfl (Nat.le_of_ble_eq_true rfl) dX2_fulfilsWish_17 ⟨(Nat.le_of_ble_eq_true rfl), (Nat.le_of_ble_eq_true rfl)⟩ ?_
    refine lv_aload_n hx hb dX2_fulfilsWish_20 rfl (lv_at hl 0 rfl) ?_
    refine va_get (D := D) (ci := 2) (v := .int wt) (C := RX2) (T := TX2) (N := 6) hx hb hts in_X2_fulfilsWish_X2 hown hK hP 0 rfl rfl 4 (by decide) (hts (.fieldLink RX2 29 "TypingCoach$Figures" "wishedTime" "I") (List.mem_of_getElem? (i := 3) rfl)) (fun _ h9 => h9) rfl dX2_fulfilsWish_21 ?_
    refine lv_icmp_gt (tgt := 46) hx hb dX2_fulfilsWish_24 (by decide) (fun c_2 => ?_) (fun c_2 => ?_)
    · refine lv_iconst (v := 0) hx hb dX2_fulfilsWish_46 (by decide) ?_
      exact rd_z hx hb hr hlocks dX2_fulfilsWish_47 (by decide) (by simp only [fGood, if_neg c_1, if_pos c_2, ↓reduceIte])
    · refine lv_aload_n hx hb dX2_fulfilsWish_27 rfl (lv_at hl 0 rfl) ?_
      refine va_get (D := D) (ci := 2) (v := .ref c3) (C := RX2) (T := TX2) (N := 6) hx hb hts in_X2_fulfilsWish_X2 hown hK hP 0 rfl rfl 2 (by decide) (hts (.fieldLink RX2 23 "TypingCoach$Figures" "shares" "LTypingCoach$Cells;") (List.mem_of_getElem? (i := 4) rfl)) (fun _ h9 => h9) rfl dX2_fulfilsWish_28 ?_
      refine lv_iload_n hx hb dX2_fulfilsWish_31 rfl (lv_at hl 1 rfl) ?_
      refine rdV (As := [.int i]) (rest := []) ⟨hx, hb, hml, hown, hts⟩ (c_X1_at l D z q c3 v3 26 sh i (Nat.le_of_ble_eq_true rfl)) (cwV 1 hts gX2_fulfilsWish_X1_at rfl rfl rfl hd_X1_at ⟨Nat.le_of_ble_eq_true rfl, Nat.le_of_ble_eq_true rfl⟩) hE hS hA hP [5, 6] rfl rfl rfl rfl rfl hl.1 rfl (Nat.le_of_ble_eq_true rfl) dX2_fulfilsWish_32 ⟨(Nat.le_of_ble_eq_true rfl), (Nat.le_of_ble_eq_true rfl)⟩ ?_
      refine lv_aload_n hx hb dX2_fulfilsWish_35 rfl (lv_at hl 0 rfl) ?_
      refine va_get (D := D) (ci := 2) (v := .int wh) (C := RX2) (T := TX2) (N := 6) hx hb hts in_X2_fulfilsWish_X2 hown hK hP 0 rfl rfl 5 (by decide) (hts (.fieldLink RX2 33 "TypingCoach$Figures" "wishedShare" "I") (List.mem_of_getElem? (i := 5) rfl)) (fun _ h9 => h9) rfl dX2_fulfilsWish_36 ?_
      refine lv_icmp_gt (tgt := 46) hx hb dX2_fulfilsWish_39 (by decide) (fun c_3 => ?_) (fun c_3 => ?_)
      · refine lv_iconst (v := 0) hx hb dX2_fulfilsWish_46 (by decide) ?_
        exact rd_z hx hb hr hlocks dX2_fulfilsWish_47 (by decide) (by simp only [fGood, if_neg c_1, if_neg c_2, if_pos c_3, ↓reduceIte])
      · refine lv_iconst (v := 1) hx hb dX2_fulfilsWish_42 (by decide) ?_
        refine lv_goto (tgt := 47) hx hb dX2_fulfilsWish_43 (by decide) ?_
        exact rd_z hx hb hr hlocks dX2_fulfilsWish_47 (by decide) (by simp only [fGood, if_neg c_1, if_neg c_2, if_neg c_3, ↓reduceIte])
set_option maxRecDepth 20000 in
theorem in_X2_mustGoOut_X2 : ∀ w ∈ wsX20, w ∈ wsX2_mustGoOut := mem_r _ [9, 10, 11, 12, 13, 14] (by decide +kernel)
theorem hd_X2_mustGoOut : yX2_mustGoOut.cls = RX2 ∧ yX2_mustGoOut.cls ≠ "java/lang/invoke/MethodHandle" ∧ yX2_mustGoOut.cls ≠ "java/lang/invoke/VarHandle" ∧ (parseMethodDescriptor yX2_mustGoOut.desc).map (fun d => d.parameters.length) = some 1 := by decide +kernel
set_option maxHeartbeats 4000000 in
set_option maxRecDepth 100000 in
theorem c_X2_mustGoOut (l : Launch) (D : va_G) (z : Nat → ClassId) (q : Nat → Nat) (h : Nat) (c1 : Nat) (v1 : Nat) (c2 : Nat) (v2 : Nat) (c3 : Nat) (v3 : Nat) (c4 : Nat) (v4 : Nat) (ct : Nat → Int32) (ti : Nat → Int32) (sh : Nat → Int32) (pr : Nat → Int32) (wt : Int32) (wh : Int32) (i : Int32)  : RD l yX2_mustGoOut wsX2_mustGoOut ({ frames := 1, cells := 0, slots := 0, locals := 21 } : Room) D z q [.ref h, .int i] [(h, .inr (2, [.ref c1, .ref c2, .ref c3, .ref c4, .int wt, .int wh])), (c1, .inr (1, [.ref v1])), (v1, .inl (z 0, 26, .inl ct)), (c2, .inr (1, [.ref v2])), (v2, .inl (z 0, 26, .inl ti)), (c3, .inr (1, [.ref v3])), (v3, .inl (z 0, 26, .inl sh)), (c4, .inr (1, [.ref v4])), (v4, .inl (z 0, 676, .inl pr))] (some (.int (fOut ct sh i))) := by
  refine RD_mk (cc := cX2_mustGoOut) (maxL := 2) (ret := (some .boolean)) (by decide) rfl (Nat.le_of_ble_eq_true rfl) ?_
  intro p e s m below meth c hx hb hr hml hts hown hlocks hP hE hS hA ls hl
  have hK := hE.1
  have hown : s.vm.findClass RX2 = some m.cls := hown
  have hl : lv_has ls 2 [(0, .ref h), (1, .int i)] := hl
  refine lv_aload_n hx hb dX2_mustGoOut_0 rfl (lv_at hl 0 rfl) ?_
  refine va_get (D := D) (ci := 2) (v := .ref c1) (C := RX2) (T := TX2) (N := 6) hx hb hts in_X2_mustGoOut_X2 hown hK hP 0 rfl rfl 0 (by decide) (hts (.fieldLink RX2 14 "TypingCoach$Figures" "counts" "LTypingCoach$Cells;") (List.mem_of_getElem? (i := 1) rfl)) (fun _ h9 => h9) rfl dX2_mustGoOut_1 ?_
  refine lv_iload_n hx hb dX2_mustGoOut_4 rfl (lv_at hl 1 rfl) ?_
  refine rdV (As := [.int i]) (rest := []) ⟨hx, hb, hml, hown, hts⟩ (c_X1_at l D z q c1 v1 26 ct i (Nat.le_of_ble_eq_true rfl)) (cwV 1 hts gX2_mustGoOut_X1_at rfl rfl rfl hd_X1_at ⟨Nat.le_of_ble_eq_true rfl, Nat.le_of_ble_eq_true rfl⟩) hE hS hA hP [1, 2] rfl rfl rfl rfl rfl hl.1 rfl (Nat.le_of_ble_eq_true rfl) dX2_mustGoOut_5 ⟨(Nat.le_of_ble_eq_true rfl), (Nat.le_of_ble_eq_true rfl)⟩ ?_
  refine lv_iconst (v := 3) hx hb dX2_mustGoOut_8 (by decide) ?_
  refine lv_icmp_lt (tgt := 30) hx hb dX2_mustGoOut_9 (by decide) (fun c_1 => ?_) (fun c_1 => ?_)
  · refine lv_iconst (v := 0) hx hb dX2_mustGoOut_30 (by decide) ?_
    exact rd_z hx hb hr hlocks dX2_mustGoOut_31 (by decide) (by simp only [fOut, if_pos c_1, ↓reduceIte])
  · refine lv_aload_n hx hb dX2_mustGoOut_12 rfl (lv_at hl 0 rfl) ?_
    refine va_get (D := D) (ci := 2) (v := .ref c3) (C := RX2) (T := TX2) (N := 6) hx hb hts in_X2_mustGoOut_X2 hown hK hP 0 rfl rfl 2 (by decide) (hts (.fieldLink RX2 23 "TypingCoach$Figures" "shares" "LTypingCoach$Cells;") (List.mem_of_getElem? (i := 2) rfl)) (fun _ h9 => h9) rfl dX2_mustGoOut_13 ?_
    refine lv_iload_n hx hb dX2_mustGoOut_16 rfl (lv_at hl 1 rfl) ?_
    refine rdV (As := [.int i]) (rest := []) ⟨hx, hb, hml, hown, hts⟩ (c_X1_at l D z q c3 v3 26 sh i (Nat.le_of_ble_eq_true rfl)) (cwV 1 hts gX2_mustGoOut_X1_at rfl rfl rfl hd_X1_at ⟨Nat.le_of_ble_eq_true rfl, Nat.le_of_ble_eq_true rfl⟩) hE hS hA hP [5, 6] rfl rfl rfl rfl rfl hl.1 rfl (Nat.le_of_ble_eq_true rfl) dX2_mustGoOut_17 ⟨(Nat.le_of_ble_eq_true rfl), (Nat.le_of_ble_eq_true rfl)⟩ ?_
    refine lv_sipush (v := 5000) hx hb dX2_mustGoOut_20 (by decide) ?_
    refine lv_icmp_le (tgt := 30) hx hb dX2_mustGoOut_23 (by decide) (fun c_2 => ?_) (fun c_2 => ?_)
    · refine lv_iconst (v := 0) hx hb dX2_mustGoOut_30 (by decide) ?_
      exact rd_z hx hb hr hlocks dX2_mustGoOut_31 (by decide) (by simp only [fOut, if_neg c_1, if_pos c_2, ↓reduceIte])
    · refine lv_iconst (v := 1) hx hb dX2_mustGoOut_26 (by decide) ?_
      refine lv_goto (tgt := 31) hx hb dX2_mustGoOut_27 (by decide) ?_
      exact rd_z hx hb hr hlocks dX2_mustGoOut_31 (by decide) (by simp only [fOut, if_neg c_1, if_neg c_2, ↓reduceIte])
set_option maxRecDepth 20000 in
theorem in_X2_isWeaker_X2 : ∀ w ∈ wsX20, w ∈ wsX2_isWeaker := mem_r _ [9, 10, 11, 12, 13, 14] (by decide +kernel)
theorem hd_X2_isWeaker : yX2_isWeaker.cls = RX2 ∧ yX2_isWeaker.cls ≠ "java/lang/invoke/MethodHandle" ∧ yX2_isWeaker.cls ≠ "java/lang/invoke/VarHandle" ∧ (parseMethodDescriptor yX2_isWeaker.desc).map (fun d => d.parameters.length) = some 2 := by decide +kernel
set_option maxHeartbeats 4000000 in
set_option maxRecDepth 100000 in
theorem c_X2_isWeaker (l : Launch) (D : va_G) (z : Nat → ClassId) (q : Nat → Nat) (h : Nat) (c1 : Nat) (v1 : Nat) (c2 : Nat) (v2 : Nat) (c3 : Nat) (v3 : Nat) (c4 : Nat) (v4 : Nat) (ct : Nat → Int32) (ti : Nat → Int32) (sh : Nat → Int32) (pr : Nat → Int32) (wt : Int32) (wh : Int32) (i : Int32) (j : Int32)  : RD l yX2_isWeaker wsX2_isWeaker ({ frames := 1, cells := 0, slots := 0, locals := 21 } : Room) D z q [.ref h, .int i, .int j] [(h, .inr (2, [.ref c1, .ref c2, .ref c3, .ref c4, .int wt, .int wh])), (c1, .inr (1, [.ref v1])), (v1, .inl (z 0, 26, .inl ct)), (c2, .inr (1, [.ref v2])), (v2, .inl (z 0, 26, .inl ti)), (c3, .inr (1, [.ref v3])), (v3, .inl (z 0, 26, .inl sh)), (c4, .inr (1, [.ref v4])), (v4, .inl (z 0, 676, .inl pr))] (some (.int (fWeak ti sh i j))) := by
  refine RD_mk (cc := cX2_isWeaker) (maxL := 3) (ret := (some .boolean)) (by decide) rfl (Nat.le_of_ble_eq_true rfl) ?_
  intro p e s m below meth c hx hb hr hml hts hown hlocks hP hE hS hA ls hl
  have hK := hE.1
  have hown : s.vm.findClass RX2 = some m.cls := hown
  have hl : lv_has ls 3 [(0, .ref h), (1, .int i), (2, .int j)] := hl
  refine lv_aload_n hx hb dX2_isWeaker_0 rfl (lv_at hl 0 rfl) ?_
  refine va_get (D := D) (ci := 2) (v := .ref c3) (C := RX2) (T := TX2) (N := 6) hx hb hts in_X2_isWeaker_X2 hown hK hP 0 rfl rfl 2 (by decide) (hts (.fieldLink RX2 23 "TypingCoach$Figures" "shares" "LTypingCoach$Cells;") (List.mem_of_getElem? (i := 1) rfl)) (fun _ h9 => h9) rfl dX2_isWeaker_1 ?_
  refine lv_iload_n hx hb dX2_isWeaker_4 rfl (lv_at hl 1 rfl) ?_
  refine rdV (As := [.int i]) (rest := []) ⟨hx, hb, hml, hown, hts⟩ (c_X1_at l D z q c3 v3 26 sh i (Nat.le_of_ble_eq_true rfl)) (cwV 1 hts gX2_isWeaker_X1_at rfl rfl rfl hd_X1_at ⟨Nat.le_of_ble_eq_true rfl, Nat.le_of_ble_eq_true rfl⟩) hE hS hA hP [5, 6] rfl rfl rfl rfl rfl hl.1 rfl (Nat.le_of_ble_eq_true rfl) dX2_isWeaker_5 ⟨(Nat.le_of_ble_eq_true rfl), (Nat.le_of_ble_eq_true rfl)⟩ ?_
  refine lv_aload_n hx hb dX2_isWeaker_8 rfl (lv_at hl 0 rfl) ?_
  refine va_get (D := D) (ci := 2) (v := .ref c3) (C := RX2) (T := TX2) (N := 6) hx hb hts in_X2_isWeaker_X2 hown hK hP 0 rfl rfl 2 (by decide) (hts (.fieldLink RX2 23 "TypingCoach$Figures" "shares" "LTypingCoach$Cells;") (List.mem_of_getElem? (i := 1) rfl)) (fun _ h9 => h9) rfl dX2_isWeaker_9 ?_
  refine lv_iload_n hx hb dX2_isWeaker_12 rfl (lv_at hl 2 rfl) ?_
  refine rdV (As := [.int j]) (rest := [.int (cAt 26 sh i)]) ⟨hx, hb, hml, hown, hts⟩ (c_X1_at l D z q c3 v3 26 sh j (Nat.le_of_ble_eq_true rfl)) (cwV 1 hts gX2_isWeaker_X1_at rfl rfl rfl hd_X1_at ⟨Nat.le_of_ble_eq_true rfl, Nat.le_of_ble_eq_true rfl⟩) hE hS hA hP [5, 6] rfl rfl rfl rfl rfl hl.1 rfl (Nat.le_of_ble_eq_true rfl) dX2_isWeaker_13 ⟨(Nat.le_of_ble_eq_true rfl), (Nat.le_of_ble_eq_true rfl)⟩ ?_
  refine lv_icmp_eq (tgt := 44) hx hb dX2_isWeaker_16 (by decide) (fun c_1 => ?_) (fun c_1 => ?_)
  · refine lv_aload_n hx hb dX2_isWeaker_44 rfl (lv_at hl 0 rfl) ?_
    refine va_get (D := D) (ci := 2) (v := .ref c2) (C := RX2) (T := TX2) (N := 6) hx hb hts in_X2_isWeaker_X2 hown hK hP 0 rfl rfl 1 (by decide) (hts (.fieldLink RX2 20 "TypingCoach$Figures" "times" "LTypingCoach$Cells;") (List.mem_of_getElem? (i := 2) rfl)) (fun _ h9 => h9) rfl dX2_isWeaker_45 ?_
    refine lv_iload_n hx hb dX2_isWeaker_48 rfl (lv_at hl 1 rfl) ?_
    refine rdV (As := [.int i]) (rest := []) ⟨hx, hb, hml, hown, hts⟩ (c_X1_at l D z q c2 v2 26 ti i (Nat.le_of_ble_eq_true rfl)) (cwV 1 hts gX2_isWeaker_X1_at rfl rfl rfl hd_X1_at ⟨Nat.le_of_ble_eq_true rfl, Nat.le_of_ble_eq_true rfl⟩) hE hS hA hP [3, 4] rfl rfl rfl rfl rfl hl.1 rfl (Nat.le_of_ble_eq_true rfl) dX2_isWeaker_49 ⟨(Nat.le_of_ble_eq_true rfl), (Nat.le_of_ble_eq_true rfl)⟩ ?_
    refine lv_aload_n hx hb dX2_isWeaker_52 rfl (lv_at hl 0 rfl) ?_
    refine va_get (D := D) (ci := 2) (v := .ref c2) (C := RX2) (T := TX2) (N := 6) hx hb hts in_X2_isWeaker_X2 hown hK hP 0 rfl rfl 1 (by decide) (hts (.fieldLink RX2 20 "TypingCoach$Figures" "times" "LTypingCoach$Cells;") (List.mem_of_getElem? (i := 2) rfl)) (fun _ h9 => h9) rfl dX2_isWeaker_53 ?_
    refine lv_iload_n hx hb dX2_isWeaker_56 rfl (lv_at hl 2 rfl) ?_
    refine rdV (As := [.int j]) (rest := [.int (cAt 26 ti i)]) ⟨hx, hb, hml, hown, hts⟩ (c_X1_at l D z q c2 v2 26 ti j (Nat.le_of_ble_eq_true rfl)) (cwV 1 hts gX2_isWeaker_X1_at rfl rfl rfl hd_X1_at ⟨Nat.le_of_ble_eq_true rfl, Nat.le_of_ble_eq_true rfl⟩) hE hS hA hP [3, 4] rfl rfl rfl rfl rfl hl.1 rfl (Nat.le_of_ble_eq_true rfl) dX2_isWeaker_57 ⟨(Nat.le_of_ble_eq_true rfl), (Nat.le_of_ble_eq_true rfl)⟩ ?_
    refine lv_icmp_le (tgt := 67) hx hb dX2_isWeaker_60 (by decide) (fun c_2 => ?_) (fun c_2 => ?_)
    · refine lv_iconst (v := 0) hx hb dX2_isWeaker_67 (by decide) ?_
      exact rd_z hx hb hr hlocks dX2_isWeaker_68 (by decide) (by simp only [fWeak, if_pos c_1, if_pos c_2, ↓reduceIte])
    · refine lv_iconst (v := 1) hx hb dX2_isWeaker_63 (by decide) ?_
      refine lv_goto (tgt := 68) hx hb dX2_isWeaker_64 (by decide) ?_
      exact rd_z hx hb hr hlocks dX2_isWeaker_68 (by decide) (by simp only [fWeak, if_pos c_1, if_neg c_2, ↓reduceIte])
  · refine lv_aload_n hx hb dX2_isWeaker_19 rfl (lv_at hl 0 rfl) ?_
    refine va_get (D := D) (ci := 2) (v := .ref c3) (C := RX2) (T := TX2) (N := 6) hx hb hts in_X2_isWeaker_X2 hown hK hP 0 rfl rfl 2 (by decide) (hts (.fieldLink RX2 23 "TypingCoach$Figures" "shares" "LTypingCoach$Cells;") (List.mem_of_getElem? (i := 1) rfl)) (fun _ h9 => h9) rfl dX2_isWeaker_20 ?_
    refine lv_iload_n hx hb dX2_isWeaker_23 rfl (lv_at hl 1 rfl) ?_
    refine rdV (As := [.int i]) (rest := []) ⟨hx, hb, hml, hown, hts⟩ (c_X1_at l D z q c3 v3 26 sh i (Nat.le_of_ble_eq_true rfl)) (cwV 1 hts gX2_isWeaker_X1_at rfl rfl rfl hd_X1_at ⟨Nat.le_of_ble_eq_true rfl, Nat.le_of_ble_eq_true rfl⟩) hE hS hA hP [5, 6] rfl rfl rfl rfl rfl hl.1 rfl (Nat.le_of_ble_eq_true rfl) dX2_isWeaker_24 ⟨(Nat.le_of_ble_eq_true rfl), (Nat.le_of_ble_eq_true rfl)⟩ ?_
    refine lv_aload_n hx hb dX2_isWeaker_27 rfl (lv_at hl 0 rfl) ?_
    refine va_get (D := D) (ci := 2) (v := .ref c3) (C := RX2) (T := TX2) (N := 6) hx hb hts in_X2_isWeaker_X2 hown hK hP 0 rfl rfl 2 (by decide) (hts (.fieldLink RX2 23 "TypingCoach$Figures" "shares" "LTypingCoach$Cells;") (List.mem_of_getElem? (i := 1) rfl)) (fun _ h9 => h9) rfl dX2_isWeaker_28 ?_
    refine lv_iload_n hx hb dX2_isWeaker_31 rfl (lv_at hl 2 rfl) ?_
    refine rdV (As := [.int j]) (rest := [.int (cAt 26 sh i)]) ⟨hx, hb, hml, hown, hts⟩ (c_X1_at l D z q c3 v3 26 sh j (Nat.le_of_ble_eq_true rfl)) (cwV 1 hts gX2_isWeaker_X1_at rfl rfl rfl hd_X1_at ⟨Nat.le_of_ble_eq_true rfl, Nat.le_of_ble_eq_true rfl⟩) hE hS hA hP [5, 6] rfl rfl rfl rfl rfl hl.1 rfl (Nat.le_of_ble_eq_true rfl) dX2_isWeaker_32 ⟨(Nat.le_of_ble_eq_true rfl), (Nat.le_of_ble_eq_true rfl)⟩ ?_
    refine lv_icmp_le (tgt := 42) hx hb dX2_isWeaker_35 (by decide) (fun c_3 => ?_) (fun c_3 => ?_)
    · refine lv_iconst (v := 0) hx hb dX2_isWeaker_42 (by decide) ?_
      exact rd_z hx hb hr hlocks dX2_isWeaker_43 (by decide) (by simp only [fWeak, if_neg c_1, if_pos c_3, ↓reduceIte])
    · refine lv_iconst (v := 1) hx hb dX2_isWeaker_38 (by decide) ?_
      refine lv_goto (tgt := 43) hx hb dX2_isWeaker_39 (by decide) ?_
      exact rd_z hx hb hr hlocks dX2_isWeaker_43 (by decide) (by simp only [fWeak, if_neg c_1, if_neg c_3, ↓reduceIte])
set_option maxRecDepth 20000 in
theorem in_X2_learn_X2 : ∀ w ∈ wsX20, w ∈ wsX2_learn := mem_r _ [24, 25, 26, 27, 28, 29] (by decide +kernel)
theorem hd_X2_learn : yX2_learn.cls = RX2 ∧ yX2_learn.cls ≠ "java/lang/invoke/MethodHandle" ∧ yX2_learn.cls ≠ "java/lang/invoke/VarHandle" ∧ (parseMethodDescriptor yX2_learn.desc).map (fun d => d.parameters.length) = some 3 := by decide +kernel
set_option maxHeartbeats 4000000 in
set_option maxRecDepth 100000 in
theorem c_X2_learn (l : Launch) (D : va_G) (z : Nat → ClassId) (q : Nat → Nat) (h : Nat) (c1 : Nat) (v1 : Nat) (c2 : Nat) (v2 : Nat) (c3 : Nat) (v3 : Nat) (c4 : Nat) (v4 : Nat) (ct : Nat → Int32) (ti : Nat → Int32) (sh : Nat → Int32) (pr : Nat → Int32) (wt : Int32) (wh : Int32) (i : Int32) (mo : Int32) (w : Int32) (sz : Nat)  : WR l yX2_learn wsX2_learn ({ frames := 2, cells := 0, slots := 0, locals := 44 } : Room) D z q [.ref h, .int i, .int mo, .int w] [(h, .inr (2, [.ref c1, .ref c2, .ref c3, .ref c4, .int wt, .int wh])), (c1, .inr (1, [.ref v1])), (v1, .inl (z 0, 26, .inl ct)), (c2, .inr (1, [.ref v2])), (v2, .inl (z 0, 26, .inl ti)), (c3, .inr (1, [.ref v3])), (v3, .inl (z 0, 26, .inl sh)), (c4, .inr (1, [.ref v4])), (v4, .inl (z 0, 676, .inl pr))] sz [(h, .inr (2, [.ref c1, .ref c2, .ref c3, .ref c4, .int wt, .int wh])), (c1, .inr (1, [.ref v1])), (v1, .inl (z 0, 26, .inl (cSet 26 ct i (cAt 26 ct i + 1)))), (c2, .inr (1, [.ref v2])), (v2, .inl (z 0, 26, .inl (cSet 26 ti i (fAged (cAt 26 ti i) mo)))), (c3, .inr (1, [.ref v3])), (v3, .inl (z 0, 26, .inl (cSet 26 sh i (fShr (cAt 26 sh i) w)))), (c4, .inr (1, [.ref v4])), (v4, .inl (z 0, 676, .inl pr))] none := by
  refine WR_mk (Qc := fun A => QW D [(h, .inr (2, [.ref c1, .ref c2, .ref c3, .ref c4, .int wt, .int wh])), (c1, .inr (1, [.ref v1])), (v1, .inl (z 0, 26, .inl (cSet 26 ct i (cAt 26 ct i + 1)))), (c2, .inr (1, [.ref v2])), (v2, .inl (z 0, 26, .inl (cSet 26 ti i (fAged (cAt 26 ti i) mo)))), (c3, .inr (1, [.ref v3])), (v3, .inl (z 0, 26, .inl (cSet 26 sh i (fShr (cAt 26 sh i) w)))), (c4, .inr (1, [.ref v4])), (v4, .inl (z 0, 676, .inl pr))] A none) (cc := cX2_learn) (maxL := 4) (ret := none) (by decide) rfl (Nat.le_of_ble_eq_true rfl) ?_
  intro p e s m below meth c A hx hb hr hml hts hown hlocks hin0 H hP hD hE hS hA ls hl
  have hK := hE.1
  have hown : s.vm.findClass RX2 = some m.cls := hown
  have hl : lv_has ls 4 [(0, .ref h), (1, .int i), (2, .int mo), (3, .int w)] := hl
  refine lv_aload_n hx hb dX2_learn_0 rfl (lv_at hl 0 rfl) ?_
  refine va_get (D := D) (ci := 2) (v := .ref c1) (C := RX2) (T := TX2) (N := 6) hx hb hts in_X2_learn_X2 hown hK hP 0 rfl rfl 0 (by decide) (hts (.fieldLink RX2 14 "TypingCoach$Figures" "counts" "LTypingCoach$Cells;") (List.mem_of_getElem? (i := 1) rfl)) (fun _ h9 => h9) rfl dX2_learn_1 ?_
  refine lv_iload_n hx hb dX2_learn_4 rfl (lv_at hl 1 rfl) ?_
  refine lv_iconst (v := 1) hx hb dX2_learn_5 (by decide) ?_
  refine wrVv (As := [.int i, .int 1]) (rest := []) ⟨hx, hb, hml, hown, hts⟩ (c_X1_add l D z q c1 v1 26 ct i 1 H.size (Nat.le_of_ble_eq_true rfl)) (cwV 2 hts gX2_learn_X1_add rfl rfl rfl hd_X1_add ⟨Nat.le_of_ble_eq_true rfl, Nat.le_of_ble_eq_true rfl⟩) hE hS hA hP hD [1, 2] rfl rfl rfl rfl rfl rfl rfl hl.1 rfl (Nat.le_of_ble_eq_true rfl) dX2_learn_6 ⟨(Nat.le_of_ble_eq_true rfl), (Nat.le_of_ble_eq_true rfl)⟩ (fun H locs hP hD hS => ?_)
  have hP : va_P D vwCl [(h, .inr (2, [.ref c1, .ref c2, .ref c3, .ref c4, .int wt, .int wh])), (c1, .inr (1, [.ref v1])), (v1, .inl (z 0, 26, .inl (cSet 26 ct i (cAt 26 ct i + 1)))), (c2, .inr (1, [.ref v2])), (v2, .inl (z 0, 26, .inl ti)), (c3, .inr (1, [.ref v3])), (v3, .inl (z 0, 26, .inl sh)), (c4, .inr (1, [.ref v4])), (v4, .inl (z 0, 676, .inl pr))] H := hP
  have hD : va_D A [(h, .inr (2, [.ref c1, .ref c2, .ref c3, .ref c4, .int wt, .int wh])), (c1, .inr (1, [.ref v1])), (v1, .inl (z 0, 26, .inl (cSet 26 ct i (cAt 26 ct i + 1)))), (c2, .inr (1, [.ref v2])), (v2, .inl (z 0, 26, .inl ti)), (c3, .inr (1, [.ref v3])), (v3, .inl (z 0, 26, .inl sh)), (c4, .inr (1, [.ref v4])), (v4, .inl (z 0, 676, .inl pr))] := hD
  refine lv_aload_n hx hb dX2_learn_9 rfl (lv_at hl 0 rfl) ?_
  refine va_get (D := D) (ci := 2) (v := .ref c2) (C := RX2) (T := TX2) (N := 6) hx hb hts in_X2_learn_X2 hown hK hP 0 rfl rfl 1 (by decide) (hts (.fieldLink RX2 20 "TypingCoach$Figures" "times" "LTypingCoach$Cells;") (List.mem_of_getElem? (i := 2) rfl)) (fun _ h9 => h9) rfl dX2_learn_10 ?_
  refine lv_iload_n hx hb dX2_learn_13 rfl (lv_at hl 1 rfl) ?_
  refine lv_aload_n hx hb dX2_learn_14 rfl (lv_at hl 0 rfl) ?_
  refine va_get (D := D) (ci := 2) (v := .ref c2) (C := RX2) (T := TX2) (N := 6) hx hb hts in_X2_learn_X2 hown hK hP 0 rfl rfl 1 (by decide) (hts (.fieldLink RX2 20 "TypingCoach$Figures" "times" "LTypingCoach$Cells;") (List.mem_of_getElem? (i := 2) rfl)) (fun _ h9 => h9) rfl dX2_learn_15 ?_
  refine lv_iload_n hx hb dX2_learn_18 rfl (lv_at hl 1 rfl) ?_
  refine rdV (As := [.int i]) (rest := [.int i, .ref c2]) ⟨hx, hb, hml, hown, hts⟩ (c_X1_at l D z q c2 v2 26 ti i (Nat.le_of_ble_eq_true rfl)) (cwV 1 hts gX2_learn_X1_at rfl rfl rfl hd_X1_at ⟨Nat.le_of_ble_eq_true rfl, Nat.le_of_ble_eq_true rfl⟩) hE hS hA hP [3, 4] rfl rfl rfl rfl rfl hl.1 rfl (Nat.le_of_ble_eq_true rfl) dX2_learn_19 ⟨(Nat.le_of_ble_eq_true rfl), (Nat.le_of_ble_eq_true rfl)⟩ ?_
  refine lv_iload_n hx hb dX2_learn_22 rfl (lv_at hl 2 rfl) ?_
  refine rdS (As := [.int (cAt 26 ti i), .int mo]) (rest := [.int i, .ref c2]) ⟨hx, hb, hml, hown, hts⟩ (c_X2_aged l D z q (cAt 26 ti i) mo) (va_cwS 2 hts gX2_learn_X2_aged rfl rfl rfl hd_X2_aged ⟨Nat.le_of_ble_eq_true rfl, Nat.le_of_ble_eq_true rfl⟩) hE hS hA hP [] rfl rfl hl.1 rfl (Nat.le_of_ble_eq_true rfl) dX2_learn_23 ⟨(Nat.le_of_ble_eq_true rfl), (Nat.le_of_ble_eq_true rfl)⟩ ?_
  refine wrVv (As := [.int i, .int (fAged (cAt 26 ti i) mo)]) (rest := []) ⟨hx, hb, hml, hown, hts⟩ (c_X1_set l D z q c2 v2 26 ti i (fAged (cAt 26 ti i) mo) H.size (Nat.le_of_ble_eq_true rfl)) (cwV 2 hts gX2_learn_X1_set rfl rfl rfl hd_X1_set ⟨Nat.le_of_ble_eq_true rfl, Nat.le_of_ble_eq_true rfl⟩) hE hS hA hP hD [3, 4] rfl rfl rfl rfl rfl rfl rfl hl.1 rfl (Nat.le_of_ble_eq_true rfl) dX2_learn_26 ⟨(Nat.le_of_ble_eq_true rfl), (Nat.le_of_ble_eq_true rfl)⟩ (fun H locs hP hD hS => ?_)
  have hP : va_P D vwCl [(h, .inr (2, [.ref c1, .ref c2, .ref c3, .ref c4, .int wt, .int wh])), (c1, .inr (1, [.ref v1])), (v1, .inl (z 0, 26, .inl (cSet 26 ct i (cAt 26 ct i + 1)))), (c2, .inr (1, [.ref v2])), (v2, .inl (z 0, 26, .inl (cSet 26 ti i (fAged (cAt 26 ti i) mo)))), (c3, .inr (1, [.ref v3])), (v3, .inl (z 0, 26, .inl sh)), (c4, .inr (1, [.ref v4])), (v4, .inl (z 0, 676, .inl pr))] H := hP
  have hD : va_D A [(h, .inr (2, [.ref c1, .ref c2, .ref c3, .ref c4, .int wt, .int wh])), (c1, .inr (1, [.ref v1])), (v1, .inl (z 0, 26, .inl (cSet 26 ct i (cAt 26 ct i + 1)))), (c2, .inr (1, [.ref v2])), (v2, .inl (z 0, 26, .inl (cSet 26 ti i (fAged (cAt 26 ti i) mo)))), (c3, .inr (1, [.ref v3])), (v3, .inl (z 0, 26, .inl sh)), (c4, .inr (1, [.ref v4])), (v4, .inl (z 0, 676, .inl pr))] := hD
  refine lv_aload_n hx hb dX2_learn_29 rfl (lv_at hl 0 rfl) ?_
  refine va_get (D := D) (ci := 2) (v := .ref c3) (C := RX2) (T := TX2) (N := 6) hx hb hts in_X2_learn_X2 hown hK hP 0 rfl rfl 2 (by decide) (hts (.fieldLink RX2 23 "TypingCoach$Figures" "shares" "LTypingCoach$Cells;") (List.mem_of_getElem? (i := 3) rfl)) (fun _ h9 => h9) rfl dX2_learn_30 ?_
  refine lv_iload_n hx hb dX2_learn_33 rfl (lv_at hl 1 rfl) ?_
  refine lv_bipush (v := 7) hx hb dX2_learn_34 (by decide) ?_
  refine lv_aload_n hx hb dX2_learn_36 rfl (lv_at hl 0 rfl) ?_
  refine va_get (D := D) (ci := 2) (v := .ref c3) (C := RX2) (T := TX2) (N := 6) hx hb hts in_X2_learn_X2 hown hK hP 0 rfl rfl 2 (by decide) (hts (.fieldLink RX2 23 "TypingCoach$Figures" "shares" "LTypingCoach$Cells;") (List.mem_of_getElem? (i := 3) rfl)) (fun _ h9 => h9) rfl dX2_learn_37 ?_
  refine lv_iload_n hx hb dX2_learn_40 rfl (lv_at hl 1 rfl) ?_
  refine rdV (As := [.int i]) (rest := [.int 7, .int i, .ref c3]) ⟨hx, hb, hml, hown, hts⟩ (c_X1_at l D z q c3 v3 26 sh i (Nat.le_of_ble_eq_true rfl)) (cwV 1 hts gX2_learn_X1_at rfl rfl rfl hd_X1_at ⟨Nat.le_of_ble_eq_true rfl, Nat.le_of_ble_eq_true rfl⟩) hE hS hA hP [5, 6] rfl rfl rfl rfl rfl hl.1 rfl (Nat.le_of_ble_eq_true rfl) dX2_learn_41 ⟨(Nat.le_of_ble_eq_true rfl), (Nat.le_of_ble_eq_true rfl)⟩ ?_
  refine lv_imul hx hb dX2_learn_44 ?_
  refine lv_iload_n hx hb dX2_learn_45 rfl (lv_at hl 3 rfl) ?_
  refine lv_if_eq (tgt := 55) hx hb dX2_learn_46 (by decide) (fun c_1 => ?_) (fun c_1 => ?_)
  · refine lv_iconst (v := 0) hx hb dX2_learn_55 (by decide) ?_
    refine lv_iadd hx hb dX2_learn_56 ?_
    refine lv_bipush (v := 8) hx hb dX2_learn_57 (by decide) ?_
    refine lv_idiv hx hb dX2_learn_59 (by decide) ?_
    refine wrVv (As := [.int i, .int (((7 * (cAt 26 sh i)) + 0) / 8)]) (rest := []) ⟨hx, hb, hml, hown, hts⟩ (c_X1_set l D z q c3 v3 26 sh i (((7 * (cAt 26 sh i)) + 0) / 8) H.size (Nat.le_of_ble_eq_true rfl)) (cwV 2 hts gX2_learn_X1_set rfl rfl rfl hd_X1_set ⟨Nat.le_of_ble_eq_true rfl, Nat.le_of_ble_eq_true rfl⟩) hE hS hA hP hD [5, 6] rfl rfl rfl rfl rfl rfl rfl hl.1 rfl (Nat.le_of_ble_eq_true rfl) dX2_learn_60 ⟨(Nat.le_of_ble_eq_true rfl), (Nat.le_of_ble_eq_true rfl)⟩ (fun H locs hP hD hS => ?_)
    have hP : va_P D vwCl [(h, .inr (2, [.ref c1, .ref c2, .ref c3, .ref c4, .int wt, .int wh])), (c1, .inr (1, [.ref v1])), (v1, .inl (z 0, 26, .inl (cSet 26 ct i (cAt 26 ct i + 1)))), (c2, .inr (1, [.ref v2])), (v2, .inl (z 0, 26, .inl (cSet 26 ti i (fAged (cAt 26 ti i) mo)))), (c3, .inr (1, [.ref v3])), (v3, .inl (z 0, 26, .inl (cSet 26 sh i (((7 * (cAt 26 sh i)) + 0) / 8)))), (c4, .inr (1, [.ref v4])), (v4, .inl (z 0, 676, .inl pr))] H := hP
    have hD : va_D A [(h, .inr (2, [.ref c1, .ref c2, .ref c3, .ref c4, .int wt, .int wh])), (c1, .inr (1, [.ref v1])), (v1, .inl (z 0, 26, .inl (cSet 26 ct i (cAt 26 ct i + 1)))), (c2, .inr (1, [.ref v2])), (v2, .inl (z 0, 26, .inl (cSet 26 ti i (fAged (cAt 26 ti i) mo)))), (c3, .inr (1, [.ref v3])), (v3, .inl (z 0, 26, .inl (cSet 26 sh i (((7 * (cAt 26 sh i)) + 0) / 8)))), (c4, .inr (1, [.ref v4])), (v4, .inl (z 0, 676, .inl pr))] := hD
    exact wr_v hx hb hr hlocks hP hD hS dX2_learn_63 (by simp only [fShr, if_pos c_1, ↓reduceIte]) (Nat.le_refl _) (Nat.le_refl _)
  · refine lv_sipush (v := 10000) hx hb dX2_learn_49 (by decide) ?_
    refine lv_goto (tgt := 56) hx hb dX2_learn_52 (by decide) ?_
    refine lv_iadd hx hb dX2_learn_56 ?_
    refine lv_bipush (v := 8) hx hb dX2_learn_57 (by decide) ?_
    refine lv_idiv hx hb dX2_learn_59 (by decide) ?_
    refine wrVv (As := [.int i, .int (((7 * (cAt 26 sh i)) + 10000) / 8)]) (rest := []) ⟨hx, hb, hml, hown, hts⟩ (c_X1_set l D z q c3 v3 26 sh i (((7 * (cAt 26 sh i)) + 10000) / 8) H.size (Nat.le_of_ble_eq_true rfl)) (cwV 2 hts gX2_learn_X1_set rfl rfl rfl hd_X1_set ⟨Nat.le_of_ble_eq_true rfl, Nat.le_of_ble_eq_true rfl⟩) hE hS hA hP hD [5, 6] rfl rfl rfl rfl rfl rfl rfl hl.1 rfl (Nat.le_of_ble_eq_true rfl) dX2_learn_60 ⟨(Nat.le_of_ble_eq_true rfl), (Nat.le_of_ble_eq_true rfl)⟩ (fun H locs hP hD hS => ?_)
    have hP : va_P D vwCl [(h, .inr (2, [.ref c1, .ref c2, .ref c3, .ref c4, .int wt, .int wh])), (c1, .inr (1, [.ref v1])), (v1, .inl (z 0, 26, .inl (cSet 26 ct i (cAt 26 ct i + 1)))), (c2, .inr (1, [.ref v2])), (v2, .inl (z 0, 26, .inl (cSet 26 ti i (fAged (cAt 26 ti i) mo)))), (c3, .inr (1, [.ref v3])), (v3, .inl (z 0, 26, .inl (cSet 26 sh i (((7 * (cAt 26 sh i)) + 10000) / 8)))), (c4, .inr (1, [.ref v4])), (v4, .inl (z 0, 676, .inl pr))] H := hP
    have hD : va_D A [(h, .inr (2, [.ref c1, .ref c2, .ref c3, .ref c4, .int wt, .int wh])), (c1, .inr (1, [.ref v1])), (v1, .inl (z 0, 26, .inl (cSet 26 ct i (cAt 26 ct i + 1)))), (c2, .inr (1, [.ref v2])), (v2, .inl (z 0, 26, .inl (cSet 26 ti i (fAged (cAt 26 ti i) mo)))), (c3, .inr (1, [.ref v3])), (v3, .inl (z 0, 26, .inl (cSet 26 sh i (((7 * (cAt 26 sh i)) + 10000) / 8)))), (c4, .inr (1, [.ref v4])), (v4, .inl (z 0, 676, .inl pr))] := hD
    exact wr_v hx hb hr hlocks hP hD hS dX2_learn_63 (by simp only [fShr, if_neg c_1, ↓reduceIte]) (Nat.le_refl _) (Nat.le_refl _)
set_option maxRecDepth 20000 in
theorem in_X2_learnPair_X2 : ∀ w ∈ wsX20, w ∈ wsX2_learnPair := mem_r _ [23, 24, 25, 26, 27, 28] (by decide +kernel)
theorem hd_X2_learnPair : yX2_learnPair.cls = RX2 ∧ yX2_learnPair.cls ≠ "java/lang/invoke/MethodHandle" ∧ yX2_learnPair.cls ≠ "java/lang/invoke/VarHandle" ∧ (parseMethodDescriptor yX2_learnPair.desc).map (fun d => d.parameters.length) = some 3 := by decide +kernel
set_option maxHeartbeats 4000000 in
set_option maxRecDepth 100000 in
theorem c_X2_learnPair (l : Launch) (D : va_G) (z : Nat → ClassId) (q : Nat → Nat) (h : Nat) (c1 : Nat) (v1 : Nat) (c2 : Nat) (v2 : Nat) (c3 : Nat) (v3 : Nat) (c4 : Nat) (v4 : Nat) (ct : Nat → Int32) (ti : Nat → Int32) (sh : Nat → Int32) (pr : Nat → Int32) (wt : Int32) (wh : Int32) (i : Int32) (j : Int32) (mo : Int32) (sz : Nat)  : WR l yX2_learnPair wsX2_learnPair ({ frames := 2, cells := 0, slots := 0, locals := 43 } : Room) D z q [.ref h, .int i, .int j, .int mo] [(h, .inr (2, [.ref c1, .ref c2, .ref c3, .ref c4, .int wt, .int wh])), (c1, .inr (1, [.ref v1])), (v1, .inl (z 0, 26, .inl ct)), (c2, .inr (1, [.ref v2])), (v2, .inl (z 0, 26, .inl ti)), (c3, .inr (1, [.ref v3])), (v3, .inl (z 0, 26, .inl sh)), (c4, .inr (1, [.ref v4])), (v4, .inl (z 0, 676, .inl pr))] sz [(h, .inr (2, [.ref c1, .ref c2, .ref c3, .ref c4, .int wt, .int wh])), (c1, .inr (1, [.ref v1])), (v1, .inl (z 0, 26, .inl ct)), (c2, .inr (1, [.ref v2])), (v2, .inl (z 0, 26, .inl ti)), (c3, .inr (1, [.ref v3])), (v3, .inl (z 0, 26, .inl sh)), (c4, .inr (1, [.ref v4])), (v4, .inl (z 0, 676, .inl (cSet 676 pr (fPair i j) (fAged (cAt 676 pr (fPair i j)) mo))))] none := by
  refine WR_mk (Qc := fun A => QW D [(h, .inr (2, [.ref c1, .ref c2, .ref c3, .ref c4, .int wt, .int wh])), (c1, .inr (1, [.ref v1])), (v1, .inl (z 0, 26, .inl ct)), (c2, .inr (1, [.ref v2])), (v2, .inl (z 0, 26, .inl ti)), (c3, .inr (1, [.ref v3])), (v3, .inl (z 0, 26, .inl sh)), (c4, .inr (1, [.ref v4])), (v4, .inl (z 0, 676, .inl (cSet 676 pr (fPair i j) (fAged (cAt 676 pr (fPair i j)) mo))))] A none) (cc := cX2_learnPair) (maxL := 4) (ret := none) (by decide) rfl (Nat.le_of_ble_eq_true rfl) ?_
  intro p e s m below meth c A hx hb hr hml hts hown hlocks hin0 H hP hD hE hS hA ls hl
  have hK := hE.1
  have hown : s.vm.findClass RX2 = some m.cls := hown
  have hl : lv_has ls 4 [(0, .ref h), (1, .int i), (2, .int j), (3, .int mo)] := hl
  refine lv_aload_n hx hb dX2_learnPair_0 rfl (lv_at hl 0 rfl) ?_
  refine va_get (D := D) (ci := 2) (v := .ref c4) (C := RX2) (T := TX2) (N := 6) hx hb hts in_X2_learnPair_X2 hown hK hP 0 rfl rfl 3 (by decide) (hts (.fieldLink RX2 26 "TypingCoach$Figures" "pairTimes" "LTypingCoach$Cells;") (List.mem_of_getElem? (i := 1) rfl)) (fun _ h9 => h9) rfl dX2_learnPair_1 ?_
  refine lv_iload_n hx hb dX2_learnPair_4 rfl (lv_at hl 1 rfl) ?_
  refine lv_iload_n hx hb dX2_learnPair_5 rfl (lv_at hl 2 rfl) ?_
  refine rdS (As := [.int i, .int j]) (rest := [.ref c4]) ⟨hx, hb, hml, hown, hts⟩ (c_X2_pairOf l D z q i j) (va_cwS 2 hts gX2_learnPair_X2_pairOf rfl rfl rfl hd_X2_pairOf ⟨Nat.le_of_ble_eq_true rfl, Nat.le_of_ble_eq_true rfl⟩) hE hS hA hP [] rfl rfl hl.1 rfl (Nat.le_of_ble_eq_true rfl) dX2_learnPair_6 ⟨(Nat.le_of_ble_eq_true rfl), (Nat.le_of_ble_eq_true rfl)⟩ ?_
  refine lv_aload_n hx hb dX2_learnPair_9 rfl (lv_at hl 0 rfl) ?_
  refine lv_iload_n hx hb dX2_learnPair_10 rfl (lv_at hl 1 rfl) ?_
  refine lv_iload_n hx hb dX2_learnPair_11 rfl (lv_at hl 2 rfl) ?_
  refine rdV (As := [.int i, .int j]) (rest := [.int (fPair i j), .ref c4]) ⟨hx, hb, hml, hown, hts⟩ (c_X2_timeOfPair l D z q h c1 v1 c2 v2 c3 v3 c4 v4 ct ti sh pr wt wh i j) (cwV 2 hts gX2_learnPair_X2_timeOfPair rfl rfl rfl hd_X2_timeOfPair ⟨Nat.le_of_ble_eq_true rfl, Nat.le_of_ble_eq_true rfl⟩) hE hS hA hP [0, 1, 2, 3, 4, 5, 6, 7, 8] rfl rfl rfl rfl rfl hl.1 rfl (Nat.le_of_ble_eq_true rfl) dX2_learnPair_12 ⟨(Nat.le_of_ble_eq_true rfl), (Nat.le_of_ble_eq_true rfl)⟩ ?_
  refine lv_iload_n hx hb dX2_learnPair_15 rfl (lv_at hl 3 rfl) ?_
  refine rdS (As := [.int (cAt 676 pr (fPair i j)), .int mo]) (rest := [.int (fPair i j), .ref c4]) ⟨hx, hb, hml, hown, hts⟩ (c_X2_aged l D z q (cAt 676 pr (fPair i j)) mo) (va_cwS 2 hts gX2_learnPair_X2_aged rfl rfl rfl hd_X2_aged ⟨Nat.le_of_ble_eq_true rfl, Nat.le_of_ble_eq_true rfl⟩) hE hS hA hP [] rfl rfl hl.1 rfl (Nat.le_of_ble_eq_true rfl) dX2_learnPair_16 ⟨(Nat.le_of_ble_eq_true rfl), (Nat.le_of_ble_eq_true rfl)⟩ ?_
  refine wrVv (As := [.int (fPair i j), .int (fAged (cAt 676 pr (fPair i j)) mo)]) (rest := []) ⟨hx, hb, hml, hown, hts⟩ (c_X1_set l D z q c4 v4 676 pr (fPair i j) (fAged (cAt 676 pr (fPair i j)) mo) H.size (Nat.le_of_ble_eq_true rfl)) (cwV 2 hts gX2_learnPair_X1_set rfl rfl rfl hd_X1_set ⟨Nat.le_of_ble_eq_true rfl, Nat.le_of_ble_eq_true rfl⟩) hE hS hA hP hD [7, 8] rfl rfl rfl rfl rfl rfl rfl hl.1 rfl (Nat.le_of_ble_eq_true rfl) dX2_learnPair_19 ⟨(Nat.le_of_ble_eq_true rfl), (Nat.le_of_ble_eq_true rfl)⟩ (fun H locs hP hD hS => ?_)
  have hP : va_P D vwCl [(h, .inr (2, [.ref c1, .ref c2, .ref c3, .ref c4, .int wt, .int wh])), (c1, .inr (1, [.ref v1])), (v1, .inl (z 0, 26, .inl ct)), (c2, .inr (1, [.ref v2])), (v2, .inl (z 0, 26, .inl ti)), (c3, .inr (1, [.ref v3])), (v3, .inl (z 0, 26, .inl sh)), (c4, .inr (1, [.ref v4])), (v4, .inl (z 0, 676, .inl (cSet 676 pr (fPair i j) (fAged (cAt 676 pr (fPair i j)) mo))))] H := hP
  have hD : va_D A [(h, .inr (2, [.ref c1, .ref c2, .ref c3, .ref c4, .int wt, .int wh])), (c1, .inr (1, [.ref v1])), (v1, .inl (z 0, 26, .inl ct)), (c2, .inr (1, [.ref v2])), (v2, .inl (z 0, 26, .inl ti)), (c3, .inr (1, [.ref v3])), (v3, .inl (z 0, 26, .inl sh)), (c4, .inr (1, [.ref v4])), (v4, .inl (z 0, 676, .inl (cSet 676 pr (fPair i j) (fAged (cAt 676 pr (fPair i j)) mo))))] := hD
  exact wr_v hx hb hr hlocks hP hD hS dX2_learnPair_22 (rfl) (Nat.le_refl _) (Nat.le_refl _)
set_option maxRecDepth 20000 in
theorem in_X2_forget_X2 : ∀ w ∈ wsX20, w ∈ wsX2_forget := mem_r _ [10, 11, 12, 13, 14, 15] (by decide +kernel)
theorem hd_X2_forget : yX2_forget.cls = RX2 ∧ yX2_forget.cls ≠ "java/lang/invoke/MethodHandle" ∧ yX2_forget.cls ≠ "java/lang/invoke/VarHandle" ∧ (parseMethodDescriptor yX2_forget.desc).map (fun d => d.parameters.length) = some 1 := by decide +kernel
set_option maxHeartbeats 4000000 in
set_option maxRecDepth 100000 in
theorem c_X2_forget (l : Launch) (D : va_G) (z : Nat → ClassId) (q : Nat → Nat) (h : Nat) (c1 : Nat) (v1 : Nat) (c2 : Nat) (v2 : Nat) (c3 : Nat) (v3 : Nat) (c4 : Nat) (v4 : Nat) (ct : Nat → Int32) (ti : Nat → Int32) (sh : Nat → Int32) (pr : Nat → Int32) (wt : Int32) (wh : Int32) (i : Int32) (sz : Nat)  : WR l yX2_forget wsX2_forget ({ frames := 1, cells := 0, slots := 0, locals := 22 } : Room) D z q [.ref h, .int i] [(h, .inr (2, [.ref c1, .ref c2, .ref c3, .ref c4, .int wt, .int wh])), (c1, .inr (1, [.ref v1])), (v1, .inl (z 0, 26, .inl ct)), (c2, .inr (1, [.ref v2])), (v2, .inl (z 0, 26, .inl ti)), (c3, .inr (1, [.ref v3])), (v3, .inl (z 0, 26, .inl sh)), (c4, .inr (1, [.ref v4])), (v4, .inl (z 0, 676, .inl pr))] sz [(h, .inr (2, [.ref c1, .ref c2, .ref c3, .ref c4, .int wt, .int wh])), (c1, .inr (1, [.ref v1])), (v1, .inl (z 0, 26, .inl (cSet 26 ct i 0))), (c2, .inr (1, [.ref v2])), (v2, .inl (z 0, 26, .inl (cSet 26 ti i 400))), (c3, .inr (1, [.ref v3])), (v3, .inl (z 0, 26, .inl (cSet 26 sh i 0))), (c4, .inr (1, [.ref v4])), (v4, .inl (z 0, 676, .inl pr))] none := by
  refine WR_mk (Qc := fun A => QW D [(h, .inr (2, [.ref c1, .ref c2, .ref c3, .ref c4, .int wt, .int wh])), (c1, .inr (1, [.ref v1])), (v1, .inl (z 0, 26, .inl (cSet 26 ct i 0))), (c2, .inr (1, [.ref v2])), (v2, .inl (z 0, 26, .inl (cSet 26 ti i 400))), (c3, .inr (1, [.ref v3])), (v3, .inl (z 0, 26, .inl (cSet 26 sh i 0))), (c4, .inr (1, [.ref v4])), (v4, .inl (z 0, 676, .inl pr))] A none) (cc := cX2_forget) (maxL := 2) (ret := none) (by decide) rfl (Nat.le_of_ble_eq_true rfl) ?_
  intro p e s m below meth c A hx hb hr hml hts hown hlocks hin0 H hP hD hE hS hA ls hl
  have hK := hE.1
  have hown : s.vm.findClass RX2 = some m.cls := hown
  have hl : lv_has ls 2 [(0, .ref h), (1, .int i)] := hl
  refine lv_aload_n hx hb dX2_forget_0 rfl (lv_at hl 0 rfl) ?_
  refine va_get (D := D) (ci := 2) (v := .ref c1) (C := RX2) (T := TX2) (N := 6) hx hb hts in_X2_forget_X2 hown hK hP 0 rfl rfl 0 (by decide) (hts (.fieldLink RX2 14 "TypingCoach$Figures" "counts" "LTypingCoach$Cells;") (List.mem_of_getElem? (i := 1) rfl)) (fun _ h9 => h9) rfl dX2_forget_1 ?_
  refine lv_iload_n hx hb dX2_forget_4 rfl (lv_at hl 1 rfl) ?_
  refine lv_iconst (v := 0) hx hb dX2_forget_5 (by decide) ?_
  refine wrVv (As := [.int i, .int 0]) (rest := []) ⟨hx, hb, hml, hown, hts⟩ (c_X1_set l D z q c1 v1 26 ct i 0 H.size (Nat.le_of_ble_eq_true rfl)) (cwV 2 hts gX2_forget_X1_set rfl rfl rfl hd_X1_set ⟨Nat.le_of_ble_eq_true rfl, Nat.le_of_ble_eq_true rfl⟩) hE hS hA hP hD [1, 2] rfl rfl rfl rfl rfl rfl rfl hl.1 rfl (Nat.le_of_ble_eq_true rfl) dX2_forget_6 ⟨(Nat.le_of_ble_eq_true rfl), (Nat.le_of_ble_eq_true rfl)⟩ (fun H locs hP hD hS => ?_)
  have hP : va_P D vwCl [(h, .inr (2, [.ref c1, .ref c2, .ref c3, .ref c4, .int wt, .int wh])), (c1, .inr (1, [.ref v1])), (v1, .inl (z 0, 26, .inl (cSet 26 ct i 0))), (c2, .inr (1, [.ref v2])), (v2, .inl (z 0, 26, .inl ti)), (c3, .inr (1, [.ref v3])), (v3, .inl (z 0, 26, .inl sh)), (c4, .inr (1, [.ref v4])), (v4, .inl (z 0, 676, .inl pr))] H := hP
  have hD : va_D A [(h, .inr (2, [.ref c1, .ref c2, .ref c3, .ref c4, .int wt, .int wh])), (c1, .inr (1, [.ref v1])), (v1, .inl (z 0, 26, .inl (cSet 26 ct i 0))), (c2, .inr (1, [.ref v2])), (v2, .inl (z 0, 26, .inl ti)), (c3, .inr (1, [.ref v3])), (v3, .inl (z 0, 26, .inl sh)), (c4, .inr (1, [.ref v4])), (v4, .inl (z 0, 676, .inl pr))] := hD
  refine lv_aload_n hx hb dX2_forget_9 rfl (lv_at hl 0 rfl) ?_
  refine va_get (D := D) (ci := 2) (v := .ref c2) (C := RX2) (T := TX2) (N := 6) hx hb hts in_X2_forget_X2 hown hK hP 0 rfl rfl 1 (by decide) (hts (.fieldLink RX2 20 "TypingCoach$Figures" "times" "LTypingCoach$Cells;") (List.mem_of_getElem? (i := 2) rfl)) (fun _ h9 => h9) rfl dX2_forget_10 ?_
  refine lv_iload_n hx hb dX2_forget_13 rfl (lv_at hl 1 rfl) ?_
  refine lv_sipush (v := 400) hx hb dX2_forget_14 (by decide) ?_
  refine wrVv (As := [.int i, .int 400]) (rest := []) ⟨hx, hb, hml, hown, hts⟩ (c_X1_set l D z q c2 v2 26 ti i 400 H.size (Nat.le_of_ble_eq_true rfl)) (cwV 2 hts gX2_forget_X1_set rfl rfl rfl hd_X1_set ⟨Nat.le_of_ble_eq_true rfl, Nat.le_of_ble_eq_true rfl⟩) hE hS hA hP hD [3, 4] rfl rfl rfl rfl rfl rfl rfl hl.1 rfl (Nat.le_of_ble_eq_true rfl) dX2_forget_17 ⟨(Nat.le_of_ble_eq_true rfl), (Nat.le_of_ble_eq_true rfl)⟩ (fun H locs hP hD hS => ?_)
  have hP : va_P D vwCl [(h, .inr (2, [.ref c1, .ref c2, .ref c3, .ref c4, .int wt, .int wh])), (c1, .inr (1, [.ref v1])), (v1, .inl (z 0, 26, .inl (cSet 26 ct i 0))), (c2, .inr (1, [.ref v2])), (v2, .inl (z 0, 26, .inl (cSet 26 ti i 400))), (c3, .inr (1, [.ref v3])), (v3, .inl (z 0, 26, .inl sh)), (c4, .inr (1, [.ref v4])), (v4, .inl (z 0, 676, .inl pr))] H := hP
  have hD : va_D A [(h, .inr (2, [.ref c1, .ref c2, .ref c3, .ref c4, .int wt, .int wh])), (c1, .inr (1, [.ref v1])), (v1, .inl (z 0, 26, .inl (cSet 26 ct i 0))), (c2, .inr (1, [.ref v2])), (v2, .inl (z 0, 26, .inl (cSet 26 ti i 400))), (c3, .inr (1, [.ref v3])), (v3, .inl (z 0, 26, .inl sh)), (c4, .inr (1, [.ref v4])), (v4, .inl (z 0, 676, .inl pr))] := hD
  refine lv_aload_n hx hb dX2_forget_20 rfl (lv_at hl 0 rfl) ?_
  refine va_get (D := D) (ci := 2) (v := .ref c3) (C := RX2) (T := TX2) (N := 6) hx hb hts in_X2_forget_X2 hown hK hP 0 rfl rfl 2 (by decide) (hts (.fieldLink RX2 23 "TypingCoach$Figures" "shares" "LTypingCoach$Cells;") (List.mem_of_getElem? (i := 3) rfl)) (fun _ h9 => h9) rfl dX2_forget_21 ?_
  refine lv_iload_n hx hb dX2_forget_24 rfl (lv_at hl 1 rfl) ?_
  refine lv_iconst (v := 0) hx hb dX2_forget_25 (by decide) ?_
  refine wrVv (As := [.int i, .int 0]) (rest := []) ⟨hx, hb, hml, hown, hts⟩ (c_X1_set l D z q c3 v3 26 sh i 0 H.size (Nat.le_of_ble_eq_true rfl)) (cwV 2 hts gX2_forget_X1_set rfl rfl rfl hd_X1_set ⟨Nat.le_of_ble_eq_true rfl, Nat.le_of_ble_eq_true rfl⟩) hE hS hA hP hD [5, 6] rfl rfl rfl rfl rfl rfl rfl hl.1 rfl (Nat.le_of_ble_eq_true rfl) dX2_forget_26 ⟨(Nat.le_of_ble_eq_true rfl), (Nat.le_of_ble_eq_true rfl)⟩ (fun H locs hP hD hS => ?_)
  have hP : va_P D vwCl [(h, .inr (2, [.ref c1, .ref c2, .ref c3, .ref c4, .int wt, .int wh])), (c1, .inr (1, [.ref v1])), (v1, .inl (z 0, 26, .inl (cSet 26 ct i 0))), (c2, .inr (1, [.ref v2])), (v2, .inl (z 0, 26, .inl (cSet 26 ti i 400))), (c3, .inr (1, [.ref v3])), (v3, .inl (z 0, 26, .inl (cSet 26 sh i 0))), (c4, .inr (1, [.ref v4])), (v4, .inl (z 0, 676, .inl pr))] H := hP
  have hD : va_D A [(h, .inr (2, [.ref c1, .ref c2, .ref c3, .ref c4, .int wt, .int wh])), (c1, .inr (1, [.ref v1])), (v1, .inl (z 0, 26, .inl (cSet 26 ct i 0))), (c2, .inr (1, [.ref v2])), (v2, .inl (z 0, 26, .inl (cSet 26 ti i 400))), (c3, .inr (1, [.ref v3])), (v3, .inl (z 0, 26, .inl (cSet 26 sh i 0))), (c4, .inr (1, [.ref v4])), (v4, .inl (z 0, 676, .inl pr))] := hD
  exact wr_v hx hb hr hlocks hP hD hS dX2_forget_29 (rfl) (Nat.le_refl _) (Nat.le_refl _)
set_option maxRecDepth 20000 in
theorem in_X2_halveCounts_X2 : ∀ w ∈ wsX20, w ∈ wsX2_halveCounts := mem_r _ [12, 13, 14, 15, 16, 17] (by decide +kernel)
theorem hd_X2_halveCounts : yX2_halveCounts.cls = RX2 ∧ yX2_halveCounts.cls ≠ "java/lang/invoke/MethodHandle" ∧ yX2_halveCounts.cls ≠ "java/lang/invoke/VarHandle" ∧ (parseMethodDescriptor yX2_halveCounts.desc).map (fun d => d.parameters.length) = some 0 := by decide +kernel
set_option maxHeartbeats 4000000 in
set_option maxRecDepth 100000 in
theorem c_X2_halveCounts (l : Launch) (D : va_G) (z : Nat → ClassId) (q : Nat → Nat) (h : Nat) (c1 : Nat) (v1 : Nat) (c2 : Nat) (v2 : Nat) (c3 : Nat) (v3 : Nat) (c4 : Nat) (v4 : Nat) (ct : Nat → Int32) (ti : Nat → Int32) (sh : Nat → Int32) (pr : Nat → Int32) (wt : Int32) (wh : Int32) (sz : Nat)  : WR l yX2_halveCounts wsX2_halveCounts ({ frames := 1, cells := 0, slots := 0, locals := 22 } : Room) D z q [.ref h] [(h, .inr (2, [.ref c1, .ref c2, .ref c3, .ref c4, .int wt, .int wh])), (c1, .inr (1, [.ref v1])), (v1, .inl (z 0, 26, .inl ct)), (c2, .inr (1, [.ref v2])), (v2, .inl (z 0, 26, .inl ti)), (c3, .inr (1, [.ref v3])), (v3, .inl (z 0, 26, .inl sh)), (c4, .inr (1, [.ref v4])), (v4, .inl (z 0, 676, .inl pr))] sz [(h, .inr (2, [.ref c1, .ref c2, .ref c3, .ref c4, .int wt, .int wh])), (c1, .inr (1, [.ref v1])), (v1, .inl (z 0, 26, .inl (fHalf ct 26))), (c2, .inr (1, [.ref v2])), (v2, .inl (z 0, 26, .inl ti)), (c3, .inr (1, [.ref v3])), (v3, .inl (z 0, 26, .inl sh)), (c4, .inr (1, [.ref v4])), (v4, .inl (z 0, 676, .inl pr))] none := by
  refine WR_mk (Qc := fun A => QW D [(h, .inr (2, [.ref c1, .ref c2, .ref c3, .ref c4, .int wt, .int wh])), (c1, .inr (1, [.ref v1])), (v1, .inl (z 0, 26, .inl (fHalf ct 26))), (c2, .inr (1, [.ref v2])), (v2, .inl (z 0, 26, .inl ti)), (c3, .inr (1, [.ref v3])), (v3, .inl (z 0, 26, .inl sh)), (c4, .inr (1, [.ref v4])), (v4, .inl (z 0, 676, .inl pr))] A none) (cc := cX2_halveCounts) (maxL := 2) (ret := none) (by decide) rfl (Nat.le_of_ble_eq_true rfl) ?_
  intro p e s m below meth c A hx hb hr hml hts hown hlocks hin0 H hP hD hE hS hA ls hl
  have hK := hE.1
  have hown : s.vm.findClass RX2 = some m.cls := hown
  have hl : lv_has ls 2 [(0, .ref h)] := hl
  refine lv_iconst (v := 0) hx hb dX2_halveCounts_0 (by decide) ?_
  refine lv_istore_n (lv' := [(1, .int 0), (0, .ref h)]) hx hb dX2_halveCounts_1 rfl hl (by decide) rfl (fun ls hl => ?_)
  have loop_1 : ∀ (n : Nat) (j : Nat), j ≤ 26 → 26 < j + n → ∀ (H : Heap) (locs : List Loc), va_P D vwCl [(h, .inr (2, [.ref c1, .ref c2, .ref c3, .ref c4, .int wt, .int wh])), (c1, .inr (1, [.ref v1])), (v1, .inl (z 0, 26, .inl (fHalf ct j))), (c2, .inr (1, [.ref v2])), (v2, .inl (z 0, 26, .inl ti)), (c3, .inr (1, [.ref v3])), (v3, .inl (z 0, 26, .inl sh)), (c4, .inr (1, [.ref v4])), (v4, .inl (z 0, 676, .inl pr))] H → va_D A [(h, .inr (2, [.ref c1, .ref c2, .ref c3, .ref c4, .int wt, .int wh])), (c1, .inr (1, [.ref v1])), (v1, .inl (z 0, 26, .inl (fHalf ct j))), (c2, .inr (1, [.ref v2])), (v2, .inl (z 0, 26, .inl ti)), (c3, .inr (1, [.ref v3])), (v3, .inl (z 0, 26, .inl sh)), (c4, .inr (1, [.ref v4])), (v4, .inl (z 0, 676, .inl pr))] → va_S A s.heap H locs → ∀ ls : Array Slot, lv_has ls 2 [(1, .int (nI j)), (0, .ref h)] → W p l e ({ frames := 1, cells := 0, slots := 0, locals := 22 } : Room) s m ([.ref h] : List Value).toArray below meth c H locs 0 0 (MQ below (QW D [(h, .inr (2, [.ref c1, .ref c2, .ref c3, .ref c4, .int wt, .int wh])), (c1, .inr (1, [.ref v1])), (v1, .inl (z 0, 26, .inl (fHalf ct 26))), (c2, .inr (1, [.ref v2])), (v2, .inl (z 0, 26, .inl ti)), (c3, .inr (1, [.ref v3])), (v3, .inl (z 0, 26, .inl sh)), (c4, .inr (1, [.ref v4])), (v4, .inl (z 0, 676, .inl pr))] A none) ([.ref h] : List Value).toArray s 0 0 A) (F0 m 2 ls []) := by
    intro n
    induction n with
    | zero => intro j hj hf; exact absurd hf (by omega)
    | succ n ih =>
      intro j hj hf H locs hP hD hS ls hl
      refine lv_iload_n hx hb dX2_halveCounts_2 rfl (lv_at hl 0 rfl) ?_
      refine lv_bipush (v := 26) hx hb dX2_halveCounts_3 (by decide) ?_
      refine lv_icmp_ge (tgt := 32) hx hb dX2_halveCounts_5 (by decide) (fun c_2 => ?_) (fun c_2 => ?_)
      · have hj2 : j = 26 := lpx c_2 hj (Nat.le_of_ble_eq_true rfl) rfl
        exact wr_v hx hb hr hlocks hP hD hS dX2_halveCounts_32 (by rw [hj2]) (Nat.le_refl _) (Nat.le_refl _)
      · have hjl : j < 26 := lpn c_2 hj (Nat.le_of_ble_eq_true rfl) rfl
        refine lv_aload_n hx hb dX2_halveCounts_8 rfl (lv_at hl 1 rfl) ?_
        refine va_get (D := D) (ci := 2) (v := .ref c1) (C := RX2) (T := TX2) (N := 6) hx hb hts in_X2_halveCounts_X2 hown hK hP 0 rfl rfl 0 (by decide) (hts (.fieldLink RX2 14 "TypingCoach$Figures" "counts" "LTypingCoach$Cells;") (List.mem_of_getElem? (i := 1) rfl)) (fun _ h9 => h9) rfl dX2_halveCounts_9 ?_
        refine lv_iload_n hx hb dX2_halveCounts_12 rfl (lv_at hl 0 rfl) ?_
        refine lv_aload_n hx hb dX2_halveCounts_13 rfl (lv_at hl 1 rfl) ?_
        refine va_get (D := D) (ci := 2) (v := .ref c1) (C := RX2) (T := TX2) (N := 6) hx hb hts in_X2_halveCounts_X2 hown hK hP 0 rfl rfl 0 (by decide) (hts (.fieldLink RX2 14 "TypingCoach$Figures" "counts" "LTypingCoach$Cells;") (List.mem_of_getElem? (i := 1) rfl)) (fun _ h9 => h9) rfl dX2_halveCounts_14 ?_
        refine lv_iload_n hx hb dX2_halveCounts_17 rfl (lv_at hl 0 rfl) ?_
        refine rdV (As := [.int (nI j)]) (rest := [.int (nI j), .ref c1]) ⟨hx, hb, hml, hown, hts⟩ (c_X1_at l D z q c1 v1 26 (fHalf ct j) (nI j) (Nat.le_of_ble_eq_true rfl)) (cwV 1 hts gX2_halveCounts_X1_at rfl rfl rfl hd_X1_at ⟨Nat.le_of_ble_eq_true rfl, Nat.le_of_ble_eq_true rfl⟩) hE hS hA hP [1, 2] rfl rfl rfl rfl rfl hl.1 rfl (Nat.le_of_ble_eq_true rfl) dX2_halveCounts_18 ⟨(Nat.le_of_ble_eq_true rfl), (Nat.le_of_ble_eq_true rfl)⟩ ?_
        refine lv_iconst (v := 2) hx hb dX2_halveCounts_21 (by decide) ?_
        refine lv_idiv hx hb dX2_halveCounts_22 (by decide) ?_
        refine wrVv (As := [.int (nI j), .int ((cAt 26 (fHalf ct j) (nI j)) / 2)]) (rest := []) ⟨hx, hb, hml, hown, hts⟩ (c_X1_set l D z q c1 v1 26 (fHalf ct j) (nI j) ((cAt 26 (fHalf ct j) (nI j)) / 2) H.size (Nat.le_of_ble_eq_true rfl)) (cwV 2 hts gX2_halveCounts_X1_set rfl rfl rfl hd_X1_set ⟨Nat.le_of_ble_eq_true rfl, Nat.le_of_ble_eq_true rfl⟩) hE hS hA hP hD [1, 2] rfl rfl rfl rfl rfl rfl rfl hl.1 rfl (Nat.le_of_ble_eq_true rfl) dX2_halveCounts_23 ⟨(Nat.le_of_ble_eq_true rfl), (Nat.le_of_ble_eq_true rfl)⟩ (fun H locs hP hD hS => ?_)
        have hP : va_P D vwCl [(h, .inr (2, [.ref c1, .ref c2, .ref c3, .ref c4, .int wt, .int wh])), (c1, .inr (1, [.ref v1])), (v1, .inl (z 0, 26, .inl (cSet 26 (fHalf ct j) (nI j) ((cAt 26 (fHalf ct j) (nI j)) / 2)))), (c2, .inr (1, [.ref v2])), (v2, .inl (z 0, 26, .inl ti)), (c3, .inr (1, [.ref v3])), (v3, .inl (z 0, 26, .inl sh)), (c4, .inr (1, [.ref v4])), (v4, .inl (z 0, 676, .inl pr))] H := hP
        have hD : va_D A [(h, .inr (2, [.ref c1, .ref c2, .ref c3, .ref c4, .int wt, .int wh])), (c1, .inr (1, [.ref v1])), (v1, .inl (z 0, 26, .inl (cSet 26 (fHalf ct j) (nI j) ((cAt 26 (fHalf ct j) (nI j)) / 2)))), (c2, .inr (1, [.ref v2])), (v2, .inl (z 0, 26, .inl ti)), (c3, .inr (1, [.ref v3])), (v3, .inl (z 0, 26, .inl sh)), (c4, .inr (1, [.ref v4])), (v4, .inl (z 0, 676, .inl pr))] := hD
        refine lv_iinc (v := nI (j + 1)) (lv' := [(1, .int (nI (j + 1))), (0, .ref h)]) hx hb dX2_halveCounts_26 hl (k := 0) rfl (nI_1 j) (by decide) rfl (fun ls hl => ?_)
        refine lv_goto (tgt := 2) hx hb dX2_halveCounts_29 (by decide) ?_
        rw [fHalf_s ct hjl] at hP hD
        exact ih (j + 1) (by omega) (by omega) _ _ hP hD hS ls (lv_sub hl [0, 1] rfl)
  exact loop_1 27 0 (by omega) (by omega) _ _ (by rw [fHalf_0]; exact hP) (by rw [fHalf_0]; exact hD) hS ls (lv_sub hl [0, 1] rfl)
set_option maxRecDepth 20000 in
theorem in_X3_isFull_X3 : ∀ w ∈ wsX30, w ∈ wsX3_isFull := mem_r _ [2, 3, 4, 5, 6, 7] (by decide +kernel)
theorem hd_X3_isFull : yX3_isFull.cls = RX3 ∧ yX3_isFull.cls ≠ "java/lang/invoke/MethodHandle" ∧ yX3_isFull.cls ≠ "java/lang/invoke/VarHandle" ∧ (parseMethodDescriptor yX3_isFull.desc).map (fun d => d.parameters.length) = some 0 := by decide +kernel
set_option maxHeartbeats 4000000 in
set_option maxRecDepth 100000 in
theorem c_X3_isFull (l : Launch) (D : va_G) (z : Nat → ClassId) (q : Nat → Nat) (h : Nat) (c1 : Nat) (v1 : Nat) (c2 : Nat) (v2 : Nat) (lt : Nat → Int32) (ty : Nat → Int32) (zz : Int32) (po : Int32) (me : Int32) (ml : Int32)  : RD l yX3_isFull wsX3_isFull ({ frames := 0, cells := 0, slots := 0, locals := 0 } : Room) D z q [.ref h] [(h, .inr (3, [.ref c1, .ref c2, .int zz, .int po, .int me, .int ml])), (c1, .inr (1, [.ref v1])), (v1, .inl (z 0, 40, .inl lt)), (c2, .inr (1, [.ref v2])), (v2, .inl (z 0, 40, .inl ty))] (some (.int (tFull zz))) := by
  refine RD_mk (cc := cX3_isFull) (maxL := 1) (ret := (some .boolean)) (by decide) rfl (Nat.le_of_ble_eq_true rfl) ?_
  intro p e s m below meth c hx hb hr hml hts hown hlocks hP hE hS hA ls hl
  have hK := hE.1
  have hown : s.vm.findClass RX3 = some m.cls := hown
  have hl : lv_has ls 1 [(0, .ref h)] := hl
  refine lv_aload_n hx hb dX3_isFull_0 rfl (lv_at hl 0 rfl) ?_
  refine va_get (D := D) (ci := 3) (v := .int zz) (C := RX3) (T := TX3) (N := 6) hx hb hts in_X3_isFull_X3 hown hK hP 0 rfl rfl 2 (by decide) (hts (.fieldLink RX3 23 "TypingCoach$Lesson" "size" "I") (List.mem_of_getElem? (i := 1) rfl)) (fun _ h9 => h9) rfl dX3_isFull_1 ?_
  refine lv_bipush (v := 40) hx hb dX3_isFull_4 (by decide) ?_
  refine lv_icmp_lt (tgt := 13) hx hb dX3_isFull_6 (by decide) (fun c_1 => ?_) (fun c_1 => ?_)
  · refine lv_iconst (v := 0) hx hb dX3_isFull_13 (by decide) ?_
    exact rd_z hx hb hr hlocks dX3_isFull_14 (by decide) (by simp only [tFull, if_pos c_1, ↓reduceIte])
  · refine lv_iconst (v := 1) hx hb dX3_isFull_9 (by decide) ?_
    refine lv_goto (tgt := 14) hx hb dX3_isFull_10 (by decide) ?_
    exact rd_z hx hb hr hlocks dX3_isFull_14 (by decide) (by simp only [tFull, if_neg c_1, ↓reduceIte])
set_option maxRecDepth 20000 in
theorem in_X3_append_X3 : ∀ w ∈ wsX30, w ∈ wsX3_append := mem_r _ [9, 10, 11, 12, 13, 14] (by decide +kernel)
theorem hd_X3_append : yX3_append.cls = RX3 ∧ yX3_append.cls ≠ "java/lang/invoke/MethodHandle" ∧ yX3_append.cls ≠ "java/lang/invoke/VarHandle" ∧ (parseMethodDescriptor yX3_append.desc).map (fun d => d.parameters.length) = some 1 := by decide +kernel
set_option maxHeartbeats 4000000 in
set_option maxRecDepth 100000 in
theorem c_X3_append (l : Launch) (D : va_G) (z : Nat → ClassId) (q : Nat → Nat) (h : Nat) (c1 : Nat) (v1 : Nat) (c2 : Nat) (v2 : Nat) (lt : Nat → Int32) (ty : Nat → Int32) (zz : Int32) (po : Int32) (me : Int32) (ml : Int32) (i : Int32) (sz : Nat)  : WR l yX3_append wsX3_append ({ frames := 1, cells := 0, slots := 0, locals := 22 } : Room) D z q [.ref h, .int i] [(h, .inr (3, [.ref c1, .ref c2, .int zz, .int po, .int me, .int ml])), (c1, .inr (1, [.ref v1])), (v1, .inl (z 0, 40, .inl lt)), (c2, .inr (1, [.ref v2])), (v2, .inl (z 0, 40, .inl ty))] sz [(h, .inr (3, [.ref c1, .ref c2, .int (zz + 1), .int po, .int me, .int ml])), (c1, .inr (1, [.ref v1])), (v1, .inl (z 0, 40, .inl (cSet 40 lt zz i))), (c2, .inr (1, [.ref v2])), (v2, .inl (z 0, 40, .inl ty))] none := by
  refine WR_mk (Qc := fun A => QW D [(h, .inr (3, [.ref c1, .ref c2, .int (zz + 1), .int po, .int me, .int ml])), (c1, .inr (1, [.ref v1])), (v1, .inl (z 0, 40, .inl (cSet 40 lt zz i))), (c2, .inr (1, [.ref v2])), (v2, .inl (z 0, 40, .inl ty))] A none) (cc := cX3_append) (maxL := 2) (ret := none) (by decide) rfl (Nat.le_of_ble_eq_true rfl) ?_
  intro p e s m below meth c A hx hb hr hml hts hown hlocks hin0 H hP hD hE hS hA ls hl
  have hK := hE.1
  have hown : s.vm.findClass RX3 = some m.cls := hown
  have hl : lv_has ls 2 [(0, .ref h), (1, .int i)] := hl
  refine lv_aload_n hx hb dX3_append_0 rfl (lv_at hl 0 rfl) ?_
  refine va_get (D := D) (ci := 3) (v := .ref c1) (C := RX3) (T := TX3) (N := 6) hx hb hts in_X3_append_X3 hown hK hP 0 rfl rfl 0 (by decide) (hts (.fieldLink RX3 14 "TypingCoach$Lesson" "letters" "LTypingCoach$Cells;") (List.mem_of_getElem? (i := 1) rfl)) (fun _ h9 => h9) rfl dX3_append_1 ?_
  refine lv_aload_n hx hb dX3_append_4 rfl (lv_at hl 0 rfl) ?_
  refine va_get (D := D) (ci := 3) (v := .int zz) (C := RX3) (T := TX3) (N := 6) hx hb hts in_X3_append_X3 hown hK hP 0 rfl rfl 2 (by decide) (hts (.fieldLink RX3 23 "TypingCoach$Lesson" "size" "I") (List.mem_of_getElem? (i := 2) rfl)) (fun _ h9 => h9) rfl dX3_append_5 ?_
  refine lv_iload_n hx hb dX3_append_8 rfl (lv_at hl 1 rfl) ?_
  refine wrVv (As := [.int zz, .int i]) (rest := []) ⟨hx, hb, hml, hown, hts⟩ (c_X1_set l D z q c1 v1 40 lt zz i H.size (Nat.le_of_ble_eq_true rfl)) (cwV 2 hts gX3_append_X1_set rfl rfl rfl hd_X1_set ⟨Nat.le_of_ble_eq_true rfl, Nat.le_of_ble_eq_true rfl⟩) hE hS hA hP hD [1, 2] rfl rfl rfl rfl rfl rfl rfl hl.1 rfl (Nat.le_of_ble_eq_true rfl) dX3_append_9 ⟨(Nat.le_of_ble_eq_true rfl), (Nat.le_of_ble_eq_true rfl)⟩ (fun H locs hP hD hS => ?_)
  have hP : va_P D vwCl [(h, .inr (3, [.ref c1, .ref c2, .int zz, .int po, .int me, .int ml])), (c1, .inr (1, [.ref v1])), (v1, .inl (z 0, 40, .inl (cSet 40 lt zz i))), (c2, .inr (1, [.ref v2])), (v2, .inl (z 0, 40, .inl ty))] H := hP
  have hD : va_D A [(h, .inr (3, [.ref c1, .ref c2, .int zz, .int po, .int me, .int ml])), (c1, .inr (1, [.ref v1])), (v1, .inl (z 0, 40, .inl (cSet 40 lt zz i))), (c2, .inr (1, [.ref v2])), (v2, .inl (z 0, 40, .inl ty))] := hD
  refine lv_aload_n hx hb dX3_append_12 rfl (lv_at hl 0 rfl) ?_
  refine lv_dup hx hb dX3_append_13 rfl ?_
  refine va_get (D := D) (ci := 3) (v := .int zz) (C := RX3) (T := TX3) (N := 6) hx hb hts in_X3_append_X3 hown hK hP 0 rfl rfl 2 (by decide) (hts (.fieldLink RX3 23 "TypingCoach$Lesson" "size" "I") (List.mem_of_getElem? (i := 2) rfl)) (fun _ h9 => h9) rfl dX3_append_14 ?_
  refine lv_iconst (v := 1) hx hb dX3_append_17 (by decide) ?_
  refine lv_iadd hx hb dX3_append_18 ?_
  refine va_put (D := D) (ci := 3) (v := .int (zz + 1)) (ty := .int) (C := RX3) (T := TX3) (N := 6) hx hb hts in_X3_append_X3 tyX3 tyX3_ok nmX3 hown hK hP hD hS 0 rfl rfl 2 (by decide) (hts (.fieldLink RX3 23 "TypingCoach$Lesson" "size" "I") (List.mem_of_getElem? (i := 2) rfl)) (fun _ h9 => h9) rfl (by decide +kernel) rfl rfl (Nat.le_of_ble_eq_true rfl) dX3_append_19 (fun H locs hP hD hS => ?_)
  have hP : va_P D vwCl [(h, .inr (3, [.ref c1, .ref c2, .int (zz + 1), .int po, .int me, .int ml])), (c1, .inr (1, [.ref v1])), (v1, .inl (z 0, 40, .inl (cSet 40 lt zz i))), (c2, .inr (1, [.ref v2])), (v2, .inl (z 0, 40, .inl ty))] H := hP
  have hD : va_D A [(h, .inr (3, [.ref c1, .ref c2, .int (zz + 1), .int po, .int me, .int ml])), (c1, .inr (1, [.ref v1])), (v1, .inl (z 0, 40, .inl (cSet 40 lt zz i))), (c2, .inr (1, [.ref v2])), (v2, .inl (z 0, 40, .inl ty))] := hD
  exact wr_v hx hb hr hlocks hP hD hS dX3_append_22 (rfl) (Nat.le_refl _) (Nat.le_refl _)
set_option maxRecDepth 20000 in
theorem in_X3_letterAt_X3 : ∀ w ∈ wsX30, w ∈ wsX3_letterAt := mem_r _ [9, 10, 11, 12, 13, 14] (by decide +kernel)
theorem hd_X3_letterAt : yX3_letterAt.cls = RX3 ∧ yX3_letterAt.cls ≠ "java/lang/invoke/MethodHandle" ∧ yX3_letterAt.cls ≠ "java/lang/invoke/VarHandle" ∧ (parseMethodDescriptor yX3_letterAt.desc).map (fun d => d.parameters.length) = some 1 := by decide +kernel
set_option maxHeartbeats 4000000 in
set_option maxRecDepth 100000 in
theorem c_X3_letterAt (l : Launch) (D : va_G) (z : Nat → ClassId) (q : Nat → Nat) (h : Nat) (c1 : Nat) (v1 : Nat) (c2 : Nat) (v2 : Nat) (lt : Nat → Int32) (ty : Nat → Int32) (zz : Int32) (po : Int32) (me : Int32) (ml : Int32) (i : Int32)  : RD l yX3_letterAt wsX3_letterAt ({ frames := 1, cells := 0, slots := 0, locals := 21 } : Room) D z q [.ref h, .int i] [(h, .inr (3, [.ref c1, .ref c2, .int zz, .int po, .int me, .int ml])), (c1, .inr (1, [.ref v1])), (v1, .inl (z 0, 40, .inl lt)), (c2, .inr (1, [.ref v2])), (v2, .inl (z 0, 40, .inl ty))] (some (.int (tAt lt zz i))) := by
  refine RD_mk (cc := cX3_letterAt) (maxL := 2) (ret := (some .int)) (by decide) rfl (Nat.le_of_ble_eq_true rfl) ?_
  intro p e s m below meth c hx hb hr hml hts hown hlocks hP hE hS hA ls hl
  have hK := hE.1
  have hown : s.vm.findClass RX3 = some m.cls := hown
  have hl : lv_has ls 2 [(0, .ref h), (1, .int i)] := hl
  refine lv_iload_n hx hb dX3_letterAt_0 rfl (lv_at hl 1 rfl) ?_
  refine lv_aload_n hx hb dX3_letterAt_1 rfl (lv_at hl 0 rfl) ?_
  refine va_get (D := D) (ci := 3) (v := .int zz) (C := RX3) (T := TX3) (N := 6) hx hb hts in_X3_letterAt_X3 hown hK hP 0 rfl rfl 2 (by decide) (hts (.fieldLink RX3 23 "TypingCoach$Lesson" "size" "I") (List.mem_of_getElem? (i := 1) rfl)) (fun _ h9 => h9) rfl dX3_letterAt_2 ?_
  refine lv_icmp_ge (tgt := 19) hx hb dX3_letterAt_5 (by decide) (fun c_1 => ?_) (fun c_1 => ?_)
  · refine lv_iconst (v := (-1)) hx hb dX3_letterAt_19 (by decide) ?_
    exact rd_i hx hb hr hlocks dX3_letterAt_20 (by simp only [tAt, if_pos c_1, ↓reduceIte])
  · refine lv_aload_n hx hb dX3_letterAt_8 rfl (lv_at hl 0 rfl) ?_
    refine va_get (D := D) (ci := 3) (v := .ref c1) (C := RX3) (T := TX3) (N := 6) hx hb hts in_X3_letterAt_X3 hown hK hP 0 rfl rfl 0 (by decide) (hts (.fieldLink RX3 14 "TypingCoach$Lesson" "letters" "LTypingCoach$Cells;") (List.mem_of_getElem? (i := 2) rfl)) (fun _ h9 => h9) rfl dX3_letterAt_9 ?_
    refine lv_iload_n hx hb dX3_letterAt_12 rfl (lv_at hl 1 rfl) ?_
    refine rdV (As := [.int i]) (rest := []) ⟨hx, hb, hml, hown, hts⟩ (c_X1_at l D z q c1 v1 40 lt i (Nat.le_of_ble_eq_true rfl)) (cwV 1 hts gX3_letterAt_X1_at rfl rfl rfl hd_X1_at ⟨Nat.le_of_ble_eq_true rfl, Nat.le_of_ble_eq_true rfl⟩) hE hS hA hP [1, 2] rfl rfl rfl rfl rfl hl.1 rfl (Nat.le_of_ble_eq_true rfl) dX3_letterAt_13 ⟨(Nat.le_of_ble_eq_true rfl), (Nat.le_of_ble_eq_true rfl)⟩ ?_
    refine lv_goto (tgt := 20) hx hb dX3_letterAt_16 (by decide) ?_
    exact rd_i hx hb hr hlocks dX3_letterAt_20 (by simp only [tAt, if_neg c_1, ↓reduceIte])
set_option maxRecDepth 20000 in
theorem in_X3_typedBefore_X3 : ∀ w ∈ wsX30, w ∈ wsX3_typedBefore := mem_r _ [9, 10, 11, 12, 13, 14] (by decide +kernel)
theorem hd_X3_typedBefore : yX3_typedBefore.cls = RX3 ∧ yX3_typedBefore.cls ≠ "java/lang/invoke/MethodHandle" ∧ yX3_typedBefore.cls ≠ "java/lang/invoke/VarHandle" ∧ (parseMethodDescriptor yX3_typedBefore.desc).map (fun d => d.parameters.length) = some 0 := by decide +kernel
set_option maxHeartbeats 4000000 in
set_option maxRecDepth 100000 in
theorem c_X3_typedBefore (l : Launch) (D : va_G) (z : Nat → ClassId) (q : Nat → Nat) (h : Nat) (c1 : Nat) (v1 : Nat) (c2 : Nat) (v2 : Nat) (lt : Nat → Int32) (ty : Nat → Int32) (zz : Int32) (po : Int32) (me : Int32) (ml : Int32)  : RD l yX3_typedBefore wsX3_typedBefore ({ frames := 1, cells := 0, slots := 0, locals := 21 } : Room) D z q [.ref h] [(h, .inr (3, [.ref c1, .ref c2, .int zz, .int po, .int me, .int ml])), (c1, .inr (1, [.ref v1])), (v1, .inl (z 0, 40, .inl lt)), (c2, .inr (1, [.ref v2])), (v2, .inl (z 0, 40, .inl ty))] (some (.int (cAt 40 ty (po - 1)))) := by
  refine RD_mk (cc := cX3_typedBefore) (maxL := 1) (ret := (some .int)) (by decide) rfl (Nat.le_of_ble_eq_true rfl) ?_
  intro p e s m below meth c hx hb hr hml hts hown hlocks hP hE hS hA ls hl
  have hK := hE.1
  have hown : s.vm.findClass RX3 = some m.cls := hown
  have hl : lv_has ls 1 [(0, .ref h)] := hl
  refine lv_aload_n hx hb dX3_typedBefore_0 rfl (lv_at hl 0 rfl) ?_
  refine va_get (D := D) (ci := 3) (v := .ref c2) (C := RX3) (T := TX3) (N := 6) hx hb hts in_X3_typedBefore_X3 hown hK hP 0 rfl rfl 1 (by decide) (hts (.fieldLink RX3 20 "TypingCoach$Lesson" "typed" "LTypingCoach$Cells;") (List.mem_of_getElem? (i := 1) rfl)) (fun _ h9 => h9) rfl dX3_typedBefore_1 ?_
  refine lv_aload_n hx hb dX3_typedBefore_4 rfl (lv_at hl 0 rfl) ?_
  refine va_get (D := D) (ci := 3) (v := .int po) (C := RX3) (T := TX3) (N := 6) hx hb hts in_X3_typedBefore_X3 hown hK hP 0 rfl rfl 3 (by decide) (hts (.fieldLink RX3 27 "TypingCoach$Lesson" "position" "I") (List.mem_of_getElem? (i := 2) rfl)) (fun _ h9 => h9) rfl dX3_typedBefore_5 ?_
  refine lv_iconst (v := 1) hx hb dX3_typedBefore_8 (by decide) ?_
  refine lv_isub hx hb dX3_typedBefore_9 ?_
  refine rdV (As := [.int (po - 1)]) (rest := []) ⟨hx, hb, hml, hown, hts⟩ (c_X1_at l D z q c2 v2 40 ty (po - 1) (Nat.le_of_ble_eq_true rfl)) (cwV 1 hts gX3_typedBefore_X1_at rfl rfl rfl hd_X1_at ⟨Nat.le_of_ble_eq_true rfl, Nat.le_of_ble_eq_true rfl⟩) hE hS hA hP [3, 4] rfl rfl rfl rfl rfl hl.1 rfl (Nat.le_of_ble_eq_true rfl) dX3_typedBefore_10 ⟨(Nat.le_of_ble_eq_true rfl), (Nat.le_of_ble_eq_true rfl)⟩ ?_
  exact rd_i hx hb hr hlocks dX3_typedBefore_13 (rfl)
set_option maxRecDepth 20000 in
theorem in_X3_type_X3 : ∀ w ∈ wsX30, w ∈ wsX3_type := mem_r _ [10, 11, 12, 13, 14, 15] (by decide +kernel)
theorem hd_X3_type : yX3_type.cls = RX3 ∧ yX3_type.cls ≠ "java/lang/invoke/MethodHandle" ∧ yX3_type.cls ≠ "java/lang/invoke/VarHandle" ∧ (parseMethodDescriptor yX3_type.desc).map (fun d => d.parameters.length) = some 2 := by decide +kernel
set_option maxHeartbeats 4000000 in
set_option maxRecDepth 100000 in
theorem c_X3_type (l : Launch) (D : va_G) (z : Nat → ClassId) (q : Nat → Nat) (h : Nat) (c1 : Nat) (v1 : Nat) (c2 : Nat) (v2 : Nat) (lt : Nat → Int32) (ty : Nat → Int32) (zz : Int32) (po : Int32) (me : Int32) (ml : Int32) (i : Int32) (mo : Int32) (sz : Nat)  : WR l yX3_type wsX3_type ({ frames := 1, cells := 0, slots := 0, locals := 22 } : Room) D z q [.ref h, .int i, .int mo] [(h, .inr (3, [.ref c1, .ref c2, .int zz, .int po, .int me, .int ml])), (c1, .inr (1, [.ref v1])), (v1, .inl (z 0, 40, .inl lt)), (c2, .inr (1, [.ref v2])), (v2, .inl (z 0, 40, .inl ty))] sz [(h, .inr (3, [.ref c1, .ref c2, .int zz, .int (po + 1), .int me, .int (ml + mo)])), (c1, .inr (1, [.ref v1])), (v1, .inl (z 0, 40, .inl lt)), (c2, .inr (1, [.ref v2])), (v2, .inl (z 0, 40, .inl (cSet 40 ty po i)))] none := by
  refine WR_mk (Qc := fun A => QW D [(h, .inr (3, [.ref c1, .ref c2, .int zz, .int (po + 1), .int me, .int (ml + mo)])), (c1, .inr (1, [.ref v1])), (v1, .inl (z 0, 40, .inl lt)), (c2, .inr (1, [.ref v2])), (v2, .inl (z 0, 40, .inl (cSet 40 ty po i)))] A none) (cc := cX3_type) (maxL := 3) (ret := none) (by decide) rfl (Nat.le_of_ble_eq_true rfl) ?_
  intro p e s m below meth c A hx hb hr hml hts hown hlocks hin0 H hP hD hE hS hA ls hl
  have hK := hE.1
  have hown : s.vm.findClass RX3 = some m.cls := hown
  have hl : lv_has ls 3 [(0, .ref h), (1, .int i), (2, .int mo)] := hl
  refine lv_aload_n hx hb dX3_type_0 rfl (lv_at hl 0 rfl) ?_
  refine va_get (D := D) (ci := 3) (v := .ref c2) (C := RX3) (T := TX3) (N := 6) hx hb hts in_X3_type_X3 hown hK hP 0 rfl rfl 1 (by decide) (hts (.fieldLink RX3 20 "TypingCoach$Lesson" "typed" "LTypingCoach$Cells;") (List.mem_of_getElem? (i := 1) rfl)) (fun _ h9 => h9) rfl dX3_type_1 ?_
  refine lv_aload_n hx hb dX3_type_4 rfl (lv_at hl 0 rfl) ?_
  refine va_get (D := D) (ci := 3) (v := .int po) (C := RX3) (T := TX3) (N := 6) hx hb hts in_X3_type_X3 hown hK hP 0 rfl rfl 3 (by decide) (hts (.fieldLink RX3 27 "TypingCoach$Lesson" "position" "I") (List.mem_of_getElem? (i := 2) rfl)) (fun _ h9 => h9) rfl dX3_type_5 ?_
  refine lv_iload_n hx hb dX3_type_8 rfl (lv_at hl 1 rfl) ?_
  refine wrVv (As := [.int po, .int i]) (rest := []) ⟨hx, hb, hml, hown, hts⟩ (c_X1_set l D z q c2 v2 40 ty po i H.size (Nat.le_of_ble_eq_true rfl)) (cwV 2 hts gX3_type_X1_set rfl rfl rfl hd_X1_set ⟨Nat.le_of_ble_eq_true rfl, Nat.le_of_ble_eq_true rfl⟩) hE hS hA hP hD [3, 4] rfl rfl rfl rfl rfl rfl rfl hl.1 rfl (Nat.le_of_ble_eq_true rfl) dX3_type_9 ⟨(Nat.le_of_ble_eq_true rfl), (Nat.le_of_ble_eq_true rfl)⟩ (fun H locs hP hD hS => ?_)
  have hP : va_P D vwCl [(h, .inr (3, [.ref c1, .ref c2, .int zz, .int po, .int me, .int ml])), (c1, .inr (1, [.ref v1])), (v1, .inl (z 0, 40, .inl lt)), (c2, .inr (1, [.ref v2])), (v2, .inl (z 0, 40, .inl (cSet 40 ty po i)))] H := hP
  have hD : va_D A [(h, .inr (3, [.ref c1, .ref c2, .int zz, .int po, .int me, .int ml])), (c1, .inr (1, [.ref v1])), (v1, .inl (z 0, 40, .inl lt)), (c2, .inr (1, [.ref v2])), (v2, .inl (z 0, 40, .inl (cSet 40 ty po i)))] := hD
  refine lv_aload_n hx hb dX3_type_12 rfl (lv_at hl 0 rfl) ?_
  refine lv_dup hx hb dX3_type_13 rfl ?_
  refine va_get (D := D) (ci := 3) (v := .int po) (C := RX3) (T := TX3) (N := 6) hx hb hts in_X3_type_X3 hown hK hP 0 rfl rfl 3 (by decide) (hts (.fieldLink RX3 27 "TypingCoach$Lesson" "position" "I") (List.mem_of_getElem? (i := 2) rfl)) (fun _ h9 => h9) rfl dX3_type_14 ?_
  refine lv_iconst (v := 1) hx hb dX3_type_17 (by decide) ?_
  refine lv_iadd hx hb dX3_type_18 ?_
  refine va_put (D := D) (ci := 3) (v := .int (po + 1)) (ty := .int) (C := RX3) (T := TX3) (N := 6) hx hb hts in_X3_type_X3 tyX3 tyX3_ok nmX3 hown hK hP hD hS 0 rfl rfl 3 (by decide) (hts (.fieldLink RX3 27 "TypingCoach$Lesson" "position" "I") (List.mem_of_getElem? (i := 2) rfl)) (fun _ h9 => h9) rfl (by decide +kernel) rfl rfl (Nat.le_of_ble_eq_true rfl) dX3_type_19 (fun H locs hP hD hS => ?_)
  have hP : va_P D vwCl [(h, .inr (3, [.ref c1, .ref c2, .int zz, .int (po + 1), .int me, .int ml])), (c1, .inr (1, [.ref v1])), (v1, .inl (z 0, 40, .inl lt)), (c2, .inr (1, [.ref v2])), (v2, .inl (z 0, 40, .inl (cSet 40 ty po i)))] H := hP
  have hD : va_D A [(h, .inr (3, [.ref c1, .ref c2, .int zz, .int (po + 1), .int me, .int ml])), (c1, .inr (1, [.ref v1])), (v1, .inl (z 0, 40, .inl lt)), (c2, .inr (1, [.ref v2])), (v2, .inl (z 0, 40, .inl (cSet 40 ty po i)))] := hD
  refine lv_aload_n hx hb dX3_type_22 rfl (lv_at hl 0 rfl) ?_
  refine lv_dup hx hb dX3_type_23 rfl ?_
  refine va_get (D := D) (ci := 3) (v := .int ml) (C := RX3) (T := TX3) (N := 6) hx hb hts in_X3_type_X3 hown hK hP 0 rfl rfl 5 (by decide) (hts (.fieldLink RX3 33 "TypingCoach$Lesson" "millisInAll" "I") (List.mem_of_getElem? (i := 3) rfl)) (fun _ h9 => h9) rfl dX3_type_24 ?_
  refine lv_iload_n hx hb dX3_type_27 rfl (lv_at hl 2 rfl) ?_
  refine lv_iadd hx hb dX3_type_28 ?_
  refine va_put (D := D) (ci := 3) (v := .int (ml + mo)) (ty := .int) (C := RX3) (T := TX3) (N := 6) hx hb hts in_X3_type_X3 tyX3 tyX3_ok nmX3 hown hK hP hD hS 0 rfl rfl 5 (by decide) (hts (.fieldLink RX3 33 "TypingCoach$Lesson" "millisInAll" "I") (List.mem_of_getElem? (i := 3) rfl)) (fun _ h9 => h9) rfl (by decide +kernel) rfl rfl (Nat.le_of_ble_eq_true rfl) dX3_type_29 (fun H locs hP hD hS => ?_)
  have hP : va_P D vwCl [(h, .inr (3, [.ref c1, .ref c2, .int zz, .int (po + 1), .int me, .int (ml + mo)])), (c1, .inr (1, [.ref v1])), (v1, .inl (z 0, 40, .inl lt)), (c2, .inr (1, [.ref v2])), (v2, .inl (z 0, 40, .inl (cSet 40 ty po i)))] H := hP
  have hD : va_D A [(h, .inr (3, [.ref c1, .ref c2, .int zz, .int (po + 1), .int me, .int (ml + mo)])), (c1, .inr (1, [.ref v1])), (v1, .inl (z 0, 40, .inl lt)), (c2, .inr (1, [.ref v2])), (v2, .inl (z 0, 40, .inl (cSet 40 ty po i)))] := hD
  exact wr_v hx hb hr hlocks hP hD hS dX3_type_32 (rfl) (Nat.le_refl _) (Nat.le_refl _)
set_option maxRecDepth 20000 in
theorem in_X3_goBack_X3 : ∀ w ∈ wsX30, w ∈ wsX3_goBack := mem_r _ [4, 5, 6, 7, 8, 9] (by decide +kernel)
theorem hd_X3_goBack : yX3_goBack.cls = RX3 ∧ yX3_goBack.cls ≠ "java/lang/invoke/MethodHandle" ∧ yX3_goBack.cls ≠ "java/lang/invoke/VarHandle" ∧ (parseMethodDescriptor yX3_goBack.desc).map (fun d => d.parameters.length) = some 1 := by decide +kernel
set_option maxHeartbeats 4000000 in
set_option maxRecDepth 100000 in
theorem c_X3_goBack (l : Launch) (D : va_G) (z : Nat → ClassId) (q : Nat → Nat) (h : Nat) (c1 : Nat) (v1 : Nat) (c2 : Nat) (v2 : Nat) (lt : Nat → Int32) (ty : Nat → Int32) (zz : Int32) (po : Int32) (me : Int32) (ml : Int32) (mo : Int32) (sz : Nat)  : WR l yX3_goBack wsX3_goBack ({ frames := 0, cells := 0, slots := 0, locals := 0 } : Room) D z q [.ref h, .int mo] [(h, .inr (3, [.ref c1, .ref c2, .int zz, .int po, .int me, .int ml])), (c1, .inr (1, [.ref v1])), (v1, .inl (z 0, 40, .inl lt)), (c2, .inr (1, [.ref v2])), (v2, .inl (z 0, 40, .inl ty))] sz [(h, .inr (3, [.ref c1, .ref c2, .int zz, .int (po - 1), .int (me + 1), .int (ml + mo)])), (c1, .inr (1, [.ref v1])), (v1, .inl (z 0, 40, .inl lt)), (c2, .inr (1, [.ref v2])), (v2, .inl (z 0, 40, .inl ty))] none := by
  refine WR_mk (Qc := fun A => QW D [(h, .inr (3, [.ref c1, .ref c2, .int zz, .int (po - 1), .int (me + 1), .int (ml + mo)])), (c1, .inr (1, [.ref v1])), (v1, .inl (z 0, 40, .inl lt)), (c2, .inr (1, [.ref v2])), (v2, .inl (z 0, 40, .inl ty))] A none) (cc := cX3_goBack) (maxL := 2) (ret := none) (by decide) rfl (Nat.le_of_ble_eq_true rfl) ?_
  intro p e s m below meth c A hx hb hr hml hts hown hlocks hin0 H hP hD hE hS hA ls hl
  have hK := hE.1
  have hown : s.vm.findClass RX3 = some m.cls := hown
  have hl : lv_has ls 2 [(0, .ref h), (1, .int mo)] := hl
  refine lv_aload_n hx hb dX3_goBack_0 rfl (lv_at hl 0 rfl) ?_
  refine lv_dup hx hb dX3_goBack_1 rfl ?_
  refine va_get (D := D) (ci := 3) (v := .int po) (C := RX3) (T := TX3) (N := 6) hx hb hts in_X3_goBack_X3 hown hK hP 0 rfl rfl 3 (by decide) (hts (.fieldLink RX3 27 "TypingCoach$Lesson" "position" "I") (List.mem_of_getElem? (i := 1) rfl)) (fun _ h9 => h9) rfl dX3_goBack_2 ?_
  refine lv_iconst (v := 1) hx hb dX3_goBack_5 (by decide) ?_
  refine lv_isub hx hb dX3_goBack_6 ?_
  refine va_put (D := D) (ci := 3) (v := .int (po - 1)) (ty := .int) (C := RX3) (T := TX3) (N := 6) hx hb hts in_X3_goBack_X3 tyX3 tyX3_ok nmX3 hown hK hP hD hS 0 rfl rfl 3 (by decide) (hts (.fieldLink RX3 27 "TypingCoach$Lesson" "position" "I") (List.mem_of_getElem? (i := 1) rfl)) (fun _ h9 => h9) rfl (by decide +kernel) rfl rfl (Nat.le_of_ble_eq_true rfl) dX3_goBack_7 (fun H locs hP hD hS => ?_)
  have hP : va_P D vwCl [(h, .inr (3, [.ref c1, .ref c2, .int zz, .int (po - 1), .int me, .int ml])), (c1, .inr (1, [.ref v1])), (v1, .inl (z 0, 40, .inl lt)), (c2, .inr (1, [.ref v2])), (v2, .inl (z 0, 40, .inl ty))] H := hP
  have hD : va_D A [(h, .inr (3, [.ref c1, .ref c2, .int zz, .int (po - 1), .int me, .int ml])), (c1, .inr (1, [.ref v1])), (v1, .inl (z 0, 40, .inl lt)), (c2, .inr (1, [.ref v2])), (v2, .inl (z 0, 40, .inl ty))] := hD
  refine lv_aload_n hx hb dX3_goBack_10 rfl (lv_at hl 0 rfl) ?_
  refine lv_dup hx hb dX3_goBack_11 rfl ?_
  refine va_get (D := D) (ci := 3) (v := .int me) (C := RX3) (T := TX3) (N := 6) hx hb hts in_X3_goBack_X3 hown hK hP 0 rfl rfl 4 (by decide) (hts (.fieldLink RX3 30 "TypingCoach$Lesson" "mendedStrokes" "I") (List.mem_of_getElem? (i := 2) rfl)) (fun _ h9 => h9) rfl dX3_goBack_12 ?_
  refine lv_iconst (v := 1) hx hb dX3_goBack_15 (by decide) ?_
  refine lv_iadd hx hb dX3_goBack_16 ?_
  refine va_put (D := D) (ci := 3) (v := .int (me + 1)) (ty := .int) (C := RX3) (T := TX3) (N := 6) hx hb hts in_X3_goBack_X3 tyX3 tyX3_ok nmX3 hown hK hP hD hS 0 rfl rfl 4 (by decide) (hts (.fieldLink RX3 30 "TypingCoach$Lesson" "mendedStrokes" "I") (List.mem_of_getElem? (i := 2) rfl)) (fun _ h9 => h9) rfl (by decide +kernel) rfl rfl (Nat.le_of_ble_eq_true rfl) dX3_goBack_17 (fun H locs hP hD hS => ?_)
  have hP : va_P D vwCl [(h, .inr (3, [.ref c1, .ref c2, .int zz, .int (po - 1), .int (me + 1), .int ml])), (c1, .inr (1, [.ref v1])), (v1, .inl (z 0, 40, .inl lt)), (c2, .inr (1, [.ref v2])), (v2, .inl (z 0, 40, .inl ty))] H := hP
  have hD : va_D A [(h, .inr (3, [.ref c1, .ref c2, .int zz, .int (po - 1), .int (me + 1), .int ml])), (c1, .inr (1, [.ref v1])), (v1, .inl (z 0, 40, .inl lt)), (c2, .inr (1, [.ref v2])), (v2, .inl (z 0, 40, .inl ty))] := hD
  refine lv_aload_n hx hb dX3_goBack_20 rfl (lv_at hl 0 rfl) ?_
  refine lv_dup hx hb dX3_goBack_21 rfl ?_
  refine va_get (D := D) (ci := 3) (v := .int ml) (C := RX3) (T := TX3) (N := 6) hx hb hts in_X3_goBack_X3 hown hK hP 0 rfl rfl 5 (by decide) (hts (.fieldLink RX3 33 "TypingCoach$Lesson" "millisInAll" "I") (List.mem_of_getElem? (i := 3) rfl)) (fun _ h9 => h9) rfl dX3_goBack_22 ?_
  refine lv_iload_n hx hb dX3_goBack_25 rfl (lv_at hl 1 rfl) ?_
  refine lv_iadd hx hb dX3_goBack_26 ?_
  refine va_put (D := D) (ci := 3) (v := .int (ml + mo)) (ty := .int) (C := RX3) (T := TX3) (N := 6) hx hb hts in_X3_goBack_X3 tyX3 tyX3_ok nmX3 hown hK hP hD hS 0 rfl rfl 5 (by decide) (hts (.fieldLink RX3 33 "TypingCoach$Lesson" "millisInAll" "I") (List.mem_of_getElem? (i := 3) rfl)) (fun _ h9 => h9) rfl (by decide +kernel) rfl rfl (Nat.le_of_ble_eq_true rfl) dX3_goBack_27 (fun H locs hP hD hS => ?_)
  have hP : va_P D vwCl [(h, .inr (3, [.ref c1, .ref c2, .int zz, .int (po - 1), .int (me + 1), .int (ml + mo)])), (c1, .inr (1, [.ref v1])), (v1, .inl (z 0, 40, .inl lt)), (c2, .inr (1, [.ref v2])), (v2, .inl (z 0, 40, .inl ty))] H := hP
  have hD : va_D A [(h, .inr (3, [.ref c1, .ref c2, .int zz, .int (po - 1), .int (me + 1), .int (ml + mo)])), (c1, .inr (1, [.ref v1])), (v1, .inl (z 0, 40, .inl lt)), (c2, .inr (1, [.ref v2])), (v2, .inl (z 0, 40, .inl ty))] := hD
  exact wr_v hx hb hr hlocks hP hD hS dX3_goBack_30 (rfl) (Nat.le_refl _) (Nat.le_refl _)
set_option maxRecDepth 20000 in
theorem in_X3_beginAnew_X3 : ∀ w ∈ wsX30, w ∈ wsX3_beginAnew := mem_r _ [5, 6, 7, 8, 9, 10] (by decide +kernel)
theorem hd_X3_beginAnew : yX3_beginAnew.cls = RX3 ∧ yX3_beginAnew.cls ≠ "java/lang/invoke/MethodHandle" ∧ yX3_beginAnew.cls ≠ "java/lang/invoke/VarHandle" ∧ (parseMethodDescriptor yX3_beginAnew.desc).map (fun d => d.parameters.length) = some 0 := by decide +kernel
set_option maxHeartbeats 4000000 in
set_option maxRecDepth 100000 in
theorem c_X3_beginAnew (l : Launch) (D : va_G) (z : Nat → ClassId) (q : Nat → Nat) (h : Nat) (c1 : Nat) (v1 : Nat) (c2 : Nat) (v2 : Nat) (lt : Nat → Int32) (ty : Nat → Int32) (zz : Int32) (po : Int32) (me : Int32) (ml : Int32) (sz : Nat)  : WR l yX3_beginAnew wsX3_beginAnew ({ frames := 0, cells := 0, slots := 0, locals := 0 } : Room) D z q [.ref h] [(h, .inr (3, [.ref c1, .ref c2, .int zz, .int po, .int me, .int ml])), (c1, .inr (1, [.ref v1])), (v1, .inl (z 0, 40, .inl lt)), (c2, .inr (1, [.ref v2])), (v2, .inl (z 0, 40, .inl ty))] sz [(h, .inr (3, [.ref c1, .ref c2, .int 0, .int 0, .int 0, .int 0])), (c1, .inr (1, [.ref v1])), (v1, .inl (z 0, 40, .inl lt)), (c2, .inr (1, [.ref v2])), (v2, .inl (z 0, 40, .inl ty))] none := by
  refine WR_mk (Qc := fun A => QW D [(h, .inr (3, [.ref c1, .ref c2, .int 0, .int 0, .int 0, .int 0])), (c1, .inr (1, [.ref v1])), (v1, .inl (z 0, 40, .inl lt)), (c2, .inr (1, [.ref v2])), (v2, .inl (z 0, 40, .inl ty))] A none) (cc := cX3_beginAnew) (maxL := 1) (ret := none) (by decide) rfl (Nat.le_of_ble_eq_true rfl) ?_
  intro p e s m below meth c A hx hb hr hml hts hown hlocks hin0 H hP hD hE hS hA ls hl
  have hK := hE.1
  have hown : s.vm.findClass RX3 = some m.cls := hown
  have hl : lv_has ls 1 [(0, .ref h)] := hl
  refine lv_aload_n hx hb dX3_beginAnew_0 rfl (lv_at hl 0 rfl) ?_
  refine lv_iconst (v := 0) hx hb dX3_beginAnew_1 (by decide) ?_
  refine va_put (D := D) (ci := 3) (v := .int 0) (ty := .int) (C := RX3) (T := TX3) (N := 6) hx hb hts in_X3_beginAnew_X3 tyX3 tyX3_ok nmX3 hown hK hP hD hS 0 rfl rfl 2 (by decide) (hts (.fieldLink RX3 23 "TypingCoach$Lesson" "size" "I") (List.mem_of_getElem? (i := 1) rfl)) (fun _ h9 => h9) rfl (by decide +kernel) rfl rfl (Nat.le_of_ble_eq_true rfl) dX3_beginAnew_2 (fun H locs hP hD hS => ?_)
  have hP : va_P D vwCl [(h, .inr (3, [.ref c1, .ref c2, .int 0, .int po, .int me, .int ml])), (c1, .inr (1, [.ref v1])), (v1, .inl (z 0, 40, .inl lt)), (c2, .inr (1, [.ref v2])), (v2, .inl (z 0, 40, .inl ty))] H := hP
  have hD : va_D A [(h, .inr (3, [.ref c1, .ref c2, .int 0, .int po, .int me, .int ml])), (c1, .inr (1, [.ref v1])), (v1, .inl (z 0, 40, .inl lt)), (c2, .inr (1, [.ref v2])), (v2, .inl (z 0, 40, .inl ty))] := hD
  refine lv_aload_n hx hb dX3_beginAnew_5 rfl (lv_at hl 0 rfl) ?_
  refine lv_iconst (v := 0) hx hb dX3_beginAnew_6 (by decide) ?_
  refine va_put (D := D) (ci := 3) (v := .int 0) (ty := .int) (C := RX3) (T := TX3) (N := 6) hx hb hts in_X3_beginAnew_X3 tyX3 tyX3_ok nmX3 hown hK hP hD hS 0 rfl rfl 3 (by decide) (hts (.fieldLink RX3 27 "TypingCoach$Lesson" "position" "I") (List.mem_of_getElem? (i := 2) rfl)) (fun _ h9 => h9) rfl (by decide +kernel) rfl rfl (Nat.le_of_ble_eq_true rfl) dX3_beginAnew_7 (fun H locs hP hD hS => ?_)
  have hP : va_P D vwCl [(h, .inr (3, [.ref c1, .ref c2, .int 0, .int 0, .int me, .int ml])), (c1, .inr (1, [.ref v1])), (v1, .inl (z 0, 40, .inl lt)), (c2, .inr (1, [.ref v2])), (v2, .inl (z 0, 40, .inl ty))] H := hP
  have hD : va_D A [(h, .inr (3, [.ref c1, .ref c2, .int 0, .int 0, .int me, .int ml])), (c1, .inr (1, [.ref v1])), (v1, .inl (z 0, 40, .inl lt)), (c2, .inr (1, [.ref v2])), (v2, .inl (z 0, 40, .inl ty))] := hD
  refine lv_aload_n hx hb dX3_beginAnew_10 rfl (lv_at hl 0 rfl) ?_
  refine lv_iconst (v := 0) hx hb dX3_beginAnew_11 (by decide) ?_
  refine va_put (D := D) (ci := 3) (v := .int 0) (ty := .int) (C := RX3) (T := TX3) (N := 6) hx hb hts in_X3_beginAnew_X3 tyX3 tyX3_ok nmX3 hown hK hP hD hS 0 rfl rfl 4 (by decide) (hts (.fieldLink RX3 30 "TypingCoach$Lesson" "mendedStrokes" "I") (List.mem_of_getElem? (i := 3) rfl)) (fun _ h9 => h9) rfl (by decide +kernel) rfl rfl (Nat.le_of_ble_eq_true rfl) dX3_beginAnew_12 (fun H locs hP hD hS => ?_)
  have hP : va_P D vwCl [(h, .inr (3, [.ref c1, .ref c2, .int 0, .int 0, .int 0, .int ml])), (c1, .inr (1, [.ref v1])), (v1, .inl (z 0, 40, .inl lt)), (c2, .inr (1, [.ref v2])), (v2, .inl (z 0, 40, .inl ty))] H := hP
  have hD : va_D A [(h, .inr (3, [.ref c1, .ref c2, .int 0, .int 0, .int 0, .int ml])), (c1, .inr (1, [.ref v1])), (v1, .inl (z 0, 40, .inl lt)), (c2, .inr (1, [.ref v2])), (v2, .inl (z 0, 40, .inl ty))] := hD
  refine lv_aload_n hx hb dX3_beginAnew_15 rfl (lv_at hl 0 rfl) ?_
  refine lv_iconst (v := 0) hx hb dX3_beginAnew_16 (by decide) ?_
  refine va_put (D := D) (ci := 3) (v := .int 0) (ty := .int) (C := RX3) (T := TX3) (N := 6) hx hb hts in_X3_beginAnew_X3 tyX3 tyX3_ok nmX3 hown hK hP hD hS 0 rfl rfl 5 (by decide) (hts (.fieldLink RX3 33 "TypingCoach$Lesson" "millisInAll" "I") (List.mem_of_getElem? (i := 4) rfl)) (fun _ h9 => h9) rfl (by decide +kernel) rfl rfl (Nat.le_of_ble_eq_true rfl) dX3_beginAnew_17 (fun H locs hP hD hS => ?_)
  have hP : va_P D vwCl [(h, .inr (3, [.ref c1, .ref c2, .int 0, .int 0, .int 0, .int 0])), (c1, .inr (1, [.ref v1])), (v1, .inl (z 0, 40, .inl lt)), (c2, .inr (1, [.ref v2])), (v2, .inl (z 0, 40, .inl ty))] H := hP
  have hD : va_D A [(h, .inr (3, [.ref c1, .ref c2, .int 0, .int 0, .int 0, .int 0])), (c1, .inr (1, [.ref v1])), (v1, .inl (z 0, 40, .inl lt)), (c2, .inr (1, [.ref v2])), (v2, .inl (z 0, 40, .inl ty))] := hD
  exact wr_v hx hb hr hlocks hP hD hS dX3_beginAnew_20 (rfl) (Nat.le_refl _) (Nat.le_refl _)
set_option maxRecDepth 20000 in
theorem in_X3_rightStrokes_X3 : ∀ w ∈ wsX30, w ∈ wsX3_rightStrokes := mem_r _ [10, 11, 12, 13, 14, 15] (by decide +kernel)
theorem hd_X3_rightStrokes : yX3_rightStrokes.cls = RX3 ∧ yX3_rightStrokes.cls ≠ "java/lang/invoke/MethodHandle" ∧ yX3_rightStrokes.cls ≠ "java/lang/invoke/VarHandle" ∧ (parseMethodDescriptor yX3_rightStrokes.desc).map (fun d => d.parameters.length) = some 0 := by decide +kernel
set_option maxHeartbeats 4000000 in
set_option maxRecDepth 100000 in
theorem c_X3_rightStrokes (l : Launch) (D : va_G) (z : Nat → ClassId) (q : Nat → Nat) (h : Nat) (c1 : Nat) (v1 : Nat) (c2 : Nat) (v2 : Nat) (lt : Nat → Int32) (ty : Nat → Int32) (zz : Int32) (po : Int32) (me : Int32) (ml : Int32) (ps : Nat) (hps : po = nI ps) (hp40 : ps ≤ 40) : RD l yX3_rightStrokes wsX3_rightStrokes ({ frames := 1, cells := 0, slots := 0, locals := 21 } : Room) D z q [.ref h] [(h, .inr (3, [.ref c1, .ref c2, .int zz, .int po, .int me, .int ml])), (c1, .inr (1, [.ref v1])), (v1, .inl (z 0, 40, .inl lt)), (c2, .inr (1, [.ref v2])), (v2, .inl (z 0, 40, .inl ty))] (some (.int (tRight lt ty ps))) := by
  refine RD_mk (cc := cX3_rightStrokes) (maxL := 3) (ret := (some .int)) (by decide) rfl (Nat.le_of_ble_eq_true rfl) ?_
  intro p e s m below meth c hx hb hr hml hts hown hlocks hP hE hS hA ls hl
  have hK := hE.1
  have hown : s.vm.findClass RX3 = some m.cls := hown
  have hl : lv_has ls 3 [(0, .ref h)] := hl
  refine lv_iconst (v := 0) hx hb dX3_rightStrokes_0 (by decide) ?_
  refine lv_istore_n (lv' := [(1, .int 0), (0, .ref h)]) hx hb dX3_rightStrokes_1 rfl hl (by decide) rfl (fun ls hl => ?_)
  refine lv_iconst (v := 0) hx hb dX3_rightStrokes_2 (by decide) ?_
  refine lv_istore_n (lv' := [(2, .int 0), (1, .int 0), (0, .ref h)]) hx hb dX3_rightStrokes_3 rfl hl (by decide) rfl (fun ls hl => ?_)
  have loop_1 : ∀ (n : Nat) (j : Nat) (x : Int32), j ≤ ps → ps < j + n → x = tRight lt ty j → ∀ ls : Array Slot, lv_has ls 3 [(2, .int (nI j)), (1, .int x), (0, .ref h)] → W p l e ({ frames := 1, cells := 0, slots := 0, locals := 21 } : Room) s m ([.ref h] : List Value).toArray below meth c s.heap [] 0 0 (MQ below (QR (some (.int (tRight lt ty ps)))) ([.ref h] : List Value).toArray s 0 0 (fun _ => False)) (F0 m 4 ls []) := by
    intro n
    induction n with
    | zero => intro j x hj hf hxj; exact absurd hf (by omega)
    | succ n ih =>
      intro j x hj hf hxj ls hl
      refine lv_iload_n hx hb dX3_rightStrokes_4 rfl (lv_at hl 0 rfl) ?_
      refine lv_aload_n hx hb dX3_rightStrokes_5 rfl (lv_at hl 2 rfl) ?_
      refine va_get (D := D) (ci := 3) (v := .int po) (C := RX3) (T := TX3) (N := 6) hx hb hts in_X3_rightStrokes_X3 hown hK hP 0 rfl rfl 3 (by decide) (hts (.fieldLink RX3 27 "TypingCoach$Lesson" "position" "I") (List.mem_of_getElem? (i := 1) rfl)) (fun _ h9 => h9) rfl dX3_rightStrokes_6 ?_
      refine lv_icmp_ge (tgt := 40) hx hb dX3_rightStrokes_9 (by decide) (fun c_2 => ?_) (fun c_2 => ?_)
      · have hj2 : j = ps := lpx c_2 hj (by omega) hps
        refine lv_iload_n hx hb dX3_rightStrokes_40 rfl (lv_at hl 1 rfl) ?_
        exact rd_i hx hb hr hlocks dX3_rightStrokes_41 (by rw [hxj, hj2])
      · have hjl : j < ps := lpn c_2 hj (by omega) hps
        refine lv_aload_n hx hb dX3_rightStrokes_12 rfl (lv_at hl 2 rfl) ?_
        refine va_get (D := D) (ci := 3) (v := .ref c2) (C := RX3) (T := TX3) (N := 6) hx hb hts in_X3_rightStrokes_X3 hown hK hP 0 rfl rfl 1 (by decide) (hts (.fieldLink RX3 20 "TypingCoach$Lesson" "typed" "LTypingCoach$Cells;") (List.mem_of_getElem? (i := 2) rfl)) (fun _ h9 => h9) rfl dX3_rightStrokes_13 ?_
        refine lv_iload_n hx hb dX3_rightStrokes_16 rfl (lv_at hl 0 rfl) ?_
        refine rdV (As := [.int (nI j)]) (rest := []) ⟨hx, hb, hml, hown, hts⟩ (c_X1_at l D z q c2 v2 40 ty (nI j) (Nat.le_of_ble_eq_true rfl)) (cwV 1 hts gX3_rightStrokes_X1_at rfl rfl rfl hd_X1_at ⟨Nat.le_of_ble_eq_true rfl, Nat.le_of_ble_eq_true rfl⟩) hE hS hA hP [3, 4] rfl rfl rfl rfl rfl hl.1 rfl (Nat.le_of_ble_eq_true rfl) dX3_rightStrokes_17 ⟨(Nat.le_of_ble_eq_true rfl), (Nat.le_of_ble_eq_true rfl)⟩ ?_
        refine lv_aload_n hx hb dX3_rightStrokes_20 rfl (lv_at hl 2 rfl) ?_
        refine va_get (D := D) (ci := 3) (v := .ref c1) (C := RX3) (T := TX3) (N := 6) hx hb hts in_X3_rightStrokes_X3 hown hK hP 0 rfl rfl 0 (by decide) (hts (.fieldLink RX3 14 "TypingCoach$Lesson" "letters" "LTypingCoach$Cells;") (List.mem_of_getElem? (i := 3) rfl)) (fun _ h9 => h9) rfl dX3_rightStrokes_21 ?_
        refine lv_iload_n hx hb dX3_rightStrokes_24 rfl (lv_at hl 0 rfl) ?_
        refine rdV (As := [.int (nI j)]) (rest := [.int (cAt 40 ty (nI j))]) ⟨hx, hb, hml, hown, hts⟩ (c_X1_at l D z q c1 v1 40 lt (nI j) (Nat.le_of_ble_eq_true rfl)) (cwV 1 hts gX3_rightStrokes_X1_at rfl rfl rfl hd_X1_at ⟨Nat.le_of_ble_eq_true rfl, Nat.le_of_ble_eq_true rfl⟩) hE hS hA hP [1, 2] rfl rfl rfl rfl rfl hl.1 rfl (Nat.le_of_ble_eq_true rfl) dX3_rightStrokes_25 ⟨(Nat.le_of_ble_eq_true rfl), (Nat.le_of_ble_eq_true rfl)⟩ ?_
        refine lv_icmp_ne (tgt := 34) hx hb dX3_rightStrokes_28 (by decide) (fun c_3 => ?_) (fun c_3 => ?_)
        · refine lv_iinc (v := nI (j + 1)) (lv' := [(2, .int (nI (j + 1))), (1, .int x), (0, .ref h)]) hx hb dX3_rightStrokes_34 hl (k := 0) rfl (nI_1 j) (by decide) rfl (fun ls hl => ?_)
          refine lv_goto (tgt := 4) hx hb dX3_rightStrokes_37 (by decide) ?_
          exact ih (j + 1) x (by omega) (by omega) (by rw [tRight, ← hxj]; simp only [if_neg c_2, if_neg c_3, ↓reduceIte]) ls (lv_sub hl [0, 1, 2] rfl)
        · refine lv_iinc (v := x + 1) (lv' := [(1, .int (x + 1)), (2, .int (nI j)), (0, .ref h)]) hx hb dX3_rightStrokes_31 hl (k := 1) rfl (rfl) (by decide) rfl (fun ls hl => ?_)
          refine lv_iinc (v := nI (j + 1)) (lv' := [(2, .int (nI (j + 1))), (1, .int (x + 1)), (0, .ref h)]) hx hb dX3_rightStrokes_34 hl (k := 1) rfl (nI_1 j) (by decide) rfl (fun ls hl => ?_)
          refine lv_goto (tgt := 4) hx hb dX3_rightStrokes_37 (by decide) ?_
          exact ih (j + 1) (x + 1) (by omega) (by omega) (by rw [tRight, ← hxj]; simp only [if_neg c_2, if_pos c_3, ↓reduceIte]) ls (lv_sub hl [0, 1, 2] rfl)
  exact loop_1 (ps + 1) 0 0 (by omega) (by omega) rfl ls (lv_sub hl [0, 1, 2] rfl)
set_option maxRecDepth 20000 in
theorem in_X3_speedSoFar_X3 : ∀ w ∈ wsX30, w ∈ wsX3_speedSoFar := mem_r _ [17, 18, 19, 20, 21, 22] (by decide +kernel)
theorem hd_X3_speedSoFar : yX3_speedSoFar.cls = RX3 ∧ yX3_speedSoFar.cls ≠ "java/lang/invoke/MethodHandle" ∧ yX3_speedSoFar.cls ≠ "java/lang/invoke/VarHandle" ∧ (parseMethodDescriptor yX3_speedSoFar.desc).map (fun d => d.parameters.length) = some 0 := by decide +kernel
set_option maxHeartbeats 4000000 in
set_option maxRecDepth 100000 in
theorem c_X3_speedSoFar (l : Launch) (D : va_G) (z : Nat → ClassId) (q : Nat → Nat) (h : Nat) (c1 : Nat) (v1 : Nat) (c2 : Nat) (v2 : Nat) (lt : Nat → Int32) (ty : Nat → Int32) (zz : Int32) (po : Int32) (me : Int32) (ml : Int32) (ps : Nat) (hps : po = nI ps) (hp40 : ps ≤ 40) : RD l yX3_speedSoFar wsX3_speedSoFar ({ frames := 2, cells := 0, slots := 0, locals := 43 } : Room) D z q [.ref h] [(h, .inr (3, [.ref c1, .ref c2, .int zz, .int po, .int me, .int ml])), (c1, .inr (1, [.ref v1])), (v1, .inl (z 0, 40, .inl lt)), (c2, .inr (1, [.ref v2])), (v2, .inl (z 0, 40, .inl ty))] (some (.int (tSpeed lt ty ps ml))) := by
  refine RD_mk (cc := cX3_speedSoFar) (maxL := 1) (ret := (some .int)) (by decide) rfl (Nat.le_of_ble_eq_true rfl) ?_
  intro p e s m below meth c hx hb hr hml hts hown hlocks hP hE hS hA ls hl
  have hK := hE.1
  have hown : s.vm.findClass RX3 = some m.cls := hown
  have hl : lv_has ls 1 [(0, .ref h)] := hl
  refine lv_aload_n hx hb dX3_speedSoFar_0 rfl (lv_at hl 0 rfl) ?_
  refine va_get (D := D) (ci := 3) (v := .int ml) (C := RX3) (T := TX3) (N := 6) hx hb hts in_X3_speedSoFar_X3 hown hK hP 0 rfl rfl 5 (by decide) (hts (.fieldLink RX3 33 "TypingCoach$Lesson" "millisInAll" "I") (List.mem_of_getElem? (i := 1) rfl)) (fun _ h9 => h9) rfl dX3_speedSoFar_1 ?_
  refine lv_if_gt (tgt := 11) hx hb dX3_speedSoFar_4 (by decide) (fun c_1 => ?_) (fun c_1 => ?_)
  · refine lv_aload_n hx hb dX3_speedSoFar_11 rfl (lv_at hl 0 rfl) ?_
    refine rdV (As := []) (rest := []) ⟨hx, hb, hml, hown, hts⟩ (c_X3_rightStrokes l D z q h c1 v1 c2 v2 lt ty zz po me ml ps hps hp40) (cwV 0 hts gX3_speedSoFar_X3_rightStrokes rfl rfl rfl hd_X3_rightStrokes ⟨Nat.le_of_ble_eq_true rfl, Nat.le_of_ble_eq_true rfl⟩) hE hS hA hP [0, 1, 2, 3, 4] rfl rfl rfl rfl rfl hl.1 rfl (Nat.le_of_ble_eq_true rfl) dX3_speedSoFar_12 ⟨(Nat.le_of_ble_eq_true rfl), (Nat.le_of_ble_eq_true rfl)⟩ ?_
    refine lv_ldc (v := 60000) hx hb hown (hts (.constant RX3 47 60000) (List.mem_of_getElem? (i := 2) rfl)) dX3_speedSoFar_15 ?_
    refine lv_imul hx hb dX3_speedSoFar_17 ?_
    refine lv_aload_n hx hb dX3_speedSoFar_18 rfl (lv_at hl 0 rfl) ?_
    refine va_get (D := D) (ci := 3) (v := .int ml) (C := RX3) (T := TX3) (N := 6) hx hb hts in_X3_speedSoFar_X3 hown hK hP 0 rfl rfl 5 (by decide) (hts (.fieldLink RX3 33 "TypingCoach$Lesson" "millisInAll" "I") (List.mem_of_getElem? (i := 1) rfl)) (fun _ h9 => h9) rfl dX3_speedSoFar_19 ?_
    refine lv_idiv hx hb dX3_speedSoFar_22 (fun h9 => absurd c_1 (by rw [h9]; decide)) ?_
    exact rd_i hx hb hr hlocks dX3_speedSoFar_23 (by simp only [tSpeed, if_pos c_1, ↓reduceIte])
  · refine lv_iconst (v := 0) hx hb dX3_speedSoFar_7 (by decide) ?_
    refine lv_goto (tgt := 23) hx hb dX3_speedSoFar_8 (by decide) ?_
    exact rd_i hx hb hr hlocks dX3_speedSoFar_23 (by simp only [tSpeed, if_neg c_1, ↓reduceIte])
set_option maxRecDepth 20000 in
theorem in_X5_isFull_X5 : ∀ w ∈ wsX50, w ∈ wsX5_isFull := mem_r _ [2, 3] (by decide +kernel)
theorem hd_X5_isFull : yX5_isFull.cls = RX5 ∧ yX5_isFull.cls ≠ "java/lang/invoke/MethodHandle" ∧ yX5_isFull.cls ≠ "java/lang/invoke/VarHandle" ∧ (parseMethodDescriptor yX5_isFull.desc).map (fun d => d.parameters.length) = some 0 := by decide +kernel
set_option maxHeartbeats 4000000 in
set_option maxRecDepth 100000 in
theorem c_X5_isFull (l : Launch) (D : va_G) (z : Nat → ClassId) (q : Nat → Nat) (h : Nat) (c1 : Nat) (v1 : Nat) (kp : Nat → Int32) (zz : Int32)  : RD l yX5_isFull wsX5_isFull ({ frames := 0, cells := 0, slots := 0, locals := 0 } : Room) D z q [.ref h] [(h, .inr (5, [.ref c1, .int zz])), (c1, .inr (1, [.ref v1])), (v1, .inl (z 0, 100, .inl kp))] (some (.int (pFull zz))) := by
  refine RD_mk (cc := cX5_isFull) (maxL := 1) (ret := (some .boolean)) (by decide) rfl (Nat.le_of_ble_eq_true rfl) ?_
  intro p e s m below meth c hx hb hr hml hts hown hlocks hP hE hS hA ls hl
  have hK := hE.1
  have hown : s.vm.findClass RX5 = some m.cls := hown
  have hl : lv_has ls 1 [(0, .ref h)] := hl
  refine lv_aload_n hx hb dX5_isFull_0 rfl (lv_at hl 0 rfl) ?_
  refine va_get (D := D) (ci := 5) (v := .int zz) (C := RX5) (T := TX5) (N := 2) hx hb hts in_X5_isFull_X5 hown hK hP 0 rfl rfl 1 (by decide) (hts (.fieldLink RX5 20 "TypingCoach$Speeds" "size" "I") (List.mem_of_getElem? (i := 1) rfl)) (fun _ h9 => h9) rfl dX5_isFull_1 ?_
  refine lv_bipush (v := 100) hx hb dX5_isFull_4 (by decide) ?_
  refine lv_icmp_lt (tgt := 13) hx hb dX5_isFull_6 (by decide) (fun c_1 => ?_) (fun c_1 => ?_)
  · refine lv_iconst (v := 0) hx hb dX5_isFull_13 (by decide) ?_
    exact rd_z hx hb hr hlocks dX5_isFull_14 (by decide) (by simp only [pFull, if_pos c_1, ↓reduceIte])
  · refine lv_iconst (v := 1) hx hb dX5_isFull_9 (by decide) ?_
    refine lv_goto (tgt := 14) hx hb dX5_isFull_10 (by decide) ?_
    exact rd_z hx hb hr hlocks dX5_isFull_14 (by decide) (by simp only [pFull, if_neg c_1, ↓reduceIte])
set_option maxRecDepth 20000 in
theorem in_X5_keep_X5 : ∀ w ∈ wsX50, w ∈ wsX5_keep := mem_r _ [9, 10] (by decide +kernel)
theorem hd_X5_keep : yX5_keep.cls = RX5 ∧ yX5_keep.cls ≠ "java/lang/invoke/MethodHandle" ∧ yX5_keep.cls ≠ "java/lang/invoke/VarHandle" ∧ (parseMethodDescriptor yX5_keep.desc).map (fun d => d.parameters.length) = some 1 := by decide +kernel
set_option maxHeartbeats 4000000 in
set_option maxRecDepth 100000 in
theorem c_X5_keep (l : Launch) (D : va_G) (z : Nat → ClassId) (q : Nat → Nat) (h : Nat) (c1 : Nat) (v1 : Nat) (kp : Nat → Int32) (zz : Int32) (x : Int32) (sz : Nat)  : WR l yX5_keep wsX5_keep ({ frames := 1, cells := 0, slots := 0, locals := 22 } : Room) D z q [.ref h, .int x] [(h, .inr (5, [.ref c1, .int zz])), (c1, .inr (1, [.ref v1])), (v1, .inl (z 0, 100, .inl kp))] sz [(h, .inr (5, [.ref c1, .int (zz + 1)])), (c1, .inr (1, [.ref v1])), (v1, .inl (z 0, 100, .inl (cSet 100 kp zz x)))] none := by
  refine WR_mk (Qc := fun A => QW D [(h, .inr (5, [.ref c1, .int (zz + 1)])), (c1, .inr (1, [.ref v1])), (v1, .inl (z 0, 100, .inl (cSet 100 kp zz x)))] A none) (cc := cX5_keep) (maxL := 2) (ret := none) (by decide) rfl (Nat.le_of_ble_eq_true rfl) ?_
  intro p e s m below meth c A hx hb hr hml hts hown hlocks hin0 H hP hD hE hS hA ls hl
  have hK := hE.1
  have hown : s.vm.findClass RX5 = some m.cls := hown
  have hl : lv_has ls 2 [(0, .ref h), (1, .int x)] := hl
  refine lv_aload_n hx hb dX5_keep_0 rfl (lv_at hl 0 rfl) ?_
  refine va_get (D := D) (ci := 5) (v := .ref c1) (C := RX5) (T := TX5) (N := 2) hx hb hts in_X5_keep_X5 hown hK hP 0 rfl rfl 0 (by decide) (hts (.fieldLink RX5 14 "TypingCoach$Speeds" "kept" "LTypingCoach$Cells;") (List.mem_of_getElem? (i := 1) rfl)) (fun _ h9 => h9) rfl dX5_keep_1 ?_
  refine lv_aload_n hx hb dX5_keep_4 rfl (lv_at hl 0 rfl) ?_
  refine va_get (D := D) (ci := 5) (v := .int zz) (C := RX5) (T := TX5) (N := 2) hx hb hts in_X5_keep_X5 hown hK hP 0 rfl rfl 1 (by decide) (hts (.fieldLink RX5 20 "TypingCoach$Speeds" "size" "I") (List.mem_of_getElem? (i := 2) rfl)) (fun _ h9 => h9) rfl dX5_keep_5 ?_
  refine lv_iload_n hx hb dX5_keep_8 rfl (lv_at hl 1 rfl) ?_
  refine wrVv (As := [.int zz, .int x]) (rest := []) ⟨hx, hb, hml, hown, hts⟩ (c_X1_set l D z q c1 v1 100 kp zz x H.size (Nat.le_of_ble_eq_true rfl)) (cwV 2 hts gX5_keep_X1_set rfl rfl rfl hd_X1_set ⟨Nat.le_of_ble_eq_true rfl, Nat.le_of_ble_eq_true rfl⟩) hE hS hA hP hD [1, 2] rfl rfl rfl rfl rfl rfl rfl hl.1 rfl (Nat.le_of_ble_eq_true rfl) dX5_keep_9 ⟨(Nat.le_of_ble_eq_true rfl), (Nat.le_of_ble_eq_true rfl)⟩ (fun H locs hP hD hS => ?_)
  have hP : va_P D vwCl [(h, .inr (5, [.ref c1, .int zz])), (c1, .inr (1, [.ref v1])), (v1, .inl (z 0, 100, .inl (cSet 100 kp zz x)))] H := hP
  have hD : va_D A [(h, .inr (5, [.ref c1, .int zz])), (c1, .inr (1, [.ref v1])), (v1, .inl (z 0, 100, .inl (cSet 100 kp zz x)))] := hD
  refine lv_aload_n hx hb dX5_keep_12 rfl (lv_at hl 0 rfl) ?_
  refine lv_dup hx hb dX5_keep_13 rfl ?_
  refine va_get (D := D) (ci := 5) (v := .int zz) (C := RX5) (T := TX5) (N := 2) hx hb hts in_X5_keep_X5 hown hK hP 0 rfl rfl 1 (by decide) (hts (.fieldLink RX5 20 "TypingCoach$Speeds" "size" "I") (List.mem_of_getElem? (i := 2) rfl)) (fun _ h9 => h9) rfl dX5_keep_14 ?_
  refine lv_iconst (v := 1) hx hb dX5_keep_17 (by decide) ?_
  refine lv_iadd hx hb dX5_keep_18 ?_
  refine va_put (D := D) (ci := 5) (v := .int (zz + 1)) (ty := .int) (C := RX5) (T := TX5) (N := 2) hx hb hts in_X5_keep_X5 tyX5 tyX5_ok nmX5 hown hK hP hD hS 0 rfl rfl 1 (by decide) (hts (.fieldLink RX5 20 "TypingCoach$Speeds" "size" "I") (List.mem_of_getElem? (i := 2) rfl)) (fun _ h9 => h9) rfl (by decide +kernel) rfl rfl (Nat.le_of_ble_eq_true rfl) dX5_keep_19 (fun H locs hP hD hS => ?_)
  have hP : va_P D vwCl [(h, .inr (5, [.ref c1, .int (zz + 1)])), (c1, .inr (1, [.ref v1])), (v1, .inl (z 0, 100, .inl (cSet 100 kp zz x)))] H := hP
  have hD : va_D A [(h, .inr (5, [.ref c1, .int (zz + 1)])), (c1, .inr (1, [.ref v1])), (v1, .inl (z 0, 100, .inl (cSet 100 kp zz x)))] := hD
  exact wr_v hx hb hr hlocks hP hD hS dX5_keep_22 (rfl) (Nat.le_refl _) (Nat.le_refl _)
