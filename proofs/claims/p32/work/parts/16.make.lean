/-! ===== constructors ===== -/
theorem mx0 {len : Int32} {n : Nat} (h : len = nI n) (hn : n ≤ 1000) : (if len < 0 then 0 else len) = nI n := by rw [h, if_neg (nI_pos (by omega))]
def bIdn (j : Nat) (f : Nat → Int32) : Nat → Int32 := fun k => if k < j then nI k else f k
theorem bIdn_0 (f : Nat → Int32) : bIdn 0 f = f := by funext k; simp [bIdn]
theorem bIdn_s {n j : Nat} (f : Nat → Int32) (hj : j < n) (hn : n < 2 ^ 31) : cSet n (bIdn j f) (nI j) (nI j) = bIdn (j + 1) f := by
  rw [cSet_nI _ _ hj hn]
  funext k
  by_cases h : k = j
  · subst h; rw [pk_us]; simp [bIdn]
  · rw [pk_un h]
    have e : (k < j + 1) ↔ (k < j) := by omega
    simp only [bIdn, e]
def lIni (j : Nat) : Nat → Int32 := fun k => if k < j then (if k < 4 then 1 else 0) else 0
theorem lIni_0 : lIni 0 = fun _ => 0 := by funext k; simp [lIni]
theorem lIni_u {j : Nat} {x : Int32} (hx : x = if j < 4 then 1 else 0) : upd (lIni j) j x = lIni (j + 1) := by
  funext k
  by_cases h : k = j
  · subst h; rw [pk_us]; simp [lIni, hx]
  · rw [pk_un h]
    have e : (k < j + 1) ↔ (k < j) := by omega
    simp only [lIni, e]
theorem lIni_t {j : Nat} (h : j < 4) : upd (lIni j) j 1 = lIni (j + 1) := lIni_u (by rw [if_pos h])
theorem lIni_f {j : Nat} (h : ¬ j < 4) : upd (lIni j) j 0 = lIni (j + 1) := lIni_u (by rw [if_neg h])
theorem lpn4 {j : Nat} (c : ¬ (4 : Int32) ≤ nI j) (hj : j < 26) : j < 4 := by
  have h : ¬ 4 ≤ j := fun h => c ((nI_leI (a := 4) (Nat.le_of_ble_eq_true rfl) (i26 hj)).mpr h)
  omega
theorem lpx4 {j : Nat} (c : (4 : Int32) ≤ nI j) (hj : j < 26) : ¬ j < 4 := by
  have h := (nI_leI (a := 4) (Nat.le_of_ble_eq_true rfl) (i26 hj)).mp c
  omega
set_option maxRecDepth 20000 in
theorem in_X1_init_X1 : ∀ w ∈ wsX10, w ∈ wsX1_init := mem_r _ [14] (by decide +kernel)
theorem hd_X1_init : yX1_init.cls ≠ "java/lang/invoke/MethodHandle" ∧ yX1_init.cls ≠ "java/lang/invoke/VarHandle" ∧ (parseMethodDescriptor yX1_init.desc).map (fun d => d.parameters.length) = some 2 := by decide +kernel
set_option maxHeartbeats 4000000 in
set_option maxRecDepth 100000 in
theorem c_X1_init (l : Launch) (D : va_G) (z : Nat → ClassId) (q : Nat → Nat) (h : Nat) (len : Int32) (x : Int32) (n : Nat) (sz : Nat) (hlen : len = nI n) (hn : n ≤ 1000) : Met l yX1_init wsX1_init ({ frames := 1, cells := 1, slots := n, locals := 40 } : Room) (va_Pc [.ref h, .int len, .int x] (WP D z q [(h, .inr (1, [.null]))] sz)) (QT D (va_A [(h, .inr (1, [.null]))] sz) (fun _ => none) (fun _ => True) (fun u : Nat → Nat => [(h, .inr (1, [.ref (u 0)])), ((u 0), .inl (z 0, n, .inl (fFill (fun _ => 0) x n)))])) 1 n (va_A [(h, .inr (1, [.null]))] sz) := by
  refine WR_mk (Qc := fun A => QT D A (fun _ => none) (fun _ => True) (fun u : Nat → Nat => [(h, .inr (1, [.ref (u 0)])), ((u 0), .inl (z 0, n, .inl (fFill (fun _ => 0) x n)))])) (mc := 1) (ms := n) (cc := cX1_init) (maxL := 3) (ret := none) (by decide) rfl (Nat.le_of_ble_eq_true rfl) ?_
  intro p e s m below meth c A hx hb hr hml hts hown hlocks hin0 H hP hD hE hS hA ls hl
  have hK := hE.1
  have hown : s.vm.findClass RX1 = some m.cls := hown
  have hin : meth.name = "<init>" := hin0 rfl
  have hl : lv_has ls 3 [(0, .ref h), (1, .int len), (2, .int x)] := hl
  refine lv_aload_n hx hb dX1_init_0 rfl (lv_at hl 0 rfl) ?_
  refine W.objInit hx hb hown (hts (.methodLink RX1 3 objectInit) (List.mem_of_getElem? (i := 1) rfl)) (hts (.instanceMethod objectInit) (List.mem_of_getElem? (i := 2) rfl)) (hts (.code objectInit ⟨#[0xb1]⟩ 1 none) (List.mem_of_getElem? (i := 3) rfl)) rfl (by rw [hml]; exact hl.1) rfl dX1_init_1 (Nat.le_of_ble_eq_true rfl) (Nat.le_of_ble_eq_true rfl) ?_
  refine W.eq (g2 := F0 m 4 ls []) rfl ?_
  refine lv_aload_n hx hb dX1_init_4 rfl (lv_at hl 0 rfl) ?_
  refine lv_iload_n hx hb dX1_init_5 rfl (lv_at hl 1 rfl) ?_
  refine lv_iconst (v := 0) hx hb dX1_init_6 (by decide) ?_
  refine va_mmax hx hb (by rw [hml]; exact hl.1.symm) hown (hts (.methodLink RX1 9 Lib.Math.max.name) (List.mem_of_getElem? (i := 4) rfl)) (hts (.static Lib.Math.max.name) (List.mem_of_getElem? (i := 5) rfl)) (hts (.initialized "java/lang/Math") (List.mem_of_getElem? (i := 6) rfl)) (hts (.code Lib.Math.max.name Lib.Math.max.code 2 (some .int)) (List.mem_of_getElem? (i := 7) rfl)) (Nat.le_of_ble_eq_true rfl) (Nat.le_of_ble_eq_true rfl) (Nat.zero_le _) (Nat.zero_le _) dX1_init_7 ?_
  refine newI (N' := n) hx hb (hts (.arrayClass .int) (List.mem_of_getElem? (i := 8) rfl)) hK hP hD hS hA (by rw [mx0 hlen hn]; exact nI_pos (by omega)) (by rw [mx0 hlen hn]; exact nI_clamp (by omega)) (by omega) (Nat.le_of_ble_eq_true rfl) (Nat.le_of_eq (Nat.zero_add _)) dX1_init_10 (fun a_1 H hP hD hS => ?_)
  have hP : va_P D vwCl [(h, .inr (1, [.null])), (a_1, .inl (z 0, n, .inl (fun _ => 0)))] H := hP
  have hD : va_D A [(h, .inr (1, [.null])), (a_1, .inl (z 0, n, .inl (fun _ => 0)))] := hD
  refine W.widen (k := 1) (n := n) (Nat.le_refl _) (Nat.le_of_eq (Nat.zero_add _)) ?_
  refine va_putF (D := D) (ci := 1) (v := .ref a_1) (ty := .array .int) (C := RX1) (T := TX1) (N := 1) hx hb hts in_X1_init_X1 tyX1 tyX1_ok nmX1 hown hK hP hD hS 0 rfl rfl 0 (by decide) (hts (.fieldLink RX1 15 "TypingCoach$Cells" "values" "[I") (List.mem_of_getElem? (i := 9) rfl)) (fun _ h9 => h9) rfl hin rfl (by decide +kernel) rfl rfl (Nat.le_of_ble_eq_true rfl) dX1_init_12 (fun H locs hP hD hS => ?_)
  have hP : va_P D vwCl [(h, .inr (1, [.ref a_1])), (a_1, .inl (z 0, n, .inl (fun _ => 0)))] H := hP
  have hD : va_D A [(h, .inr (1, [.ref a_1])), (a_1, .inl (z 0, n, .inl (fun _ => 0)))] := hD
  refine lv_aload_n hx hb dX1_init_15 rfl (lv_at hl 0 rfl) ?_
  refine va_get (D := D) (ci := 1) (v := .ref a_1) (C := RX1) (T := TX1) (N := 1) hx hb hts in_X1_init_X1 hown hK hP 0 rfl rfl 0 (by decide) (hts (.fieldLink RX1 15 "TypingCoach$Cells" "values" "[I") (List.mem_of_getElem? (i := 9) rfl)) (fun _ h9 => h9) rfl dX1_init_16 ?_
  refine lv_iload_n hx hb dX1_init_19 rfl (lv_at hl 2 rfl) ?_
  refine wrSv (As := [.ref a_1, .int x]) (rest := []) ⟨hx, hb, hml, hown, hts⟩ (c_J7_fill_53178 l D z q a_1 n (fun _ => 0) x H.size (by omega)) (va_cwS 2 hts gX1_init_J7_fill_53178 rfl rfl rfl hd_J7_fill_53178 ⟨Nat.le_of_ble_eq_true rfl, Nat.le_of_ble_eq_true rfl⟩) hE hS hA hP hD [1] rfl rfl rfl rfl hl.1 rfl (Nat.le_of_ble_eq_true rfl) dX1_init_20 ⟨(Nat.le_of_ble_eq_true rfl), (Nat.le_refl _)⟩ (fun H locs hP hD hS => ?_)
  have hP : va_P D vwCl [(h, .inr (1, [.ref a_1])), (a_1, .inl (z 0, n, .inl (fFill (fun _ => 0) x n)))] H := hP
  have hD : va_D A [(h, .inr (1, [.ref a_1])), (a_1, .inl (z 0, n, .inl (fFill (fun _ => 0) x n)))] := hD
  have hP := sub_map (ws' := [(h, .inr (1, [.ref a_1])), (a_1, .inl (z 0, n, .inl (fFill (fun _ => 0) x n)))]) hP [0, 1] rfl
  have hD := hD.sub (ws' := [(h, .inr (1, [.ref a_1])), (a_1, .inl (z 0, n, .inl (fFill (fun _ => 0) x n)))]) [0, 1] (by decide) rfl
  exact qt_v (fun k => ([a_1] : List Nat).getD k 0) hx hb hr hlocks hP hD hS dX1_init_23 rfl (rfl) trivial (Nat.le_refl _) (Nat.le_refl _)
set_option maxRecDepth 20000 in
theorem in_X0_init_X1 : ∀ w ∈ wsX10, w ∈ wsX0_init := mem_r _ [27] (by decide +kernel)
set_option maxRecDepth 20000 in
theorem in_X0_init_X0 : ∀ w ∈ wsX00, w ∈ wsX0_init := mem_r _ [28, 29] (by decide +kernel)
theorem hd_X0_init : yX0_init.cls ≠ "java/lang/invoke/MethodHandle" ∧ yX0_init.cls ≠ "java/lang/invoke/VarHandle" ∧ (parseMethodDescriptor yX0_init.desc).map (fun d => d.parameters.length) = some 0 := by decide +kernel
set_option maxHeartbeats 4000000 in
set_option maxRecDepth 100000 in
theorem c_X0_init (l : Launch) (D : va_G) (z : Nat → ClassId) (q : Nat → Nat) (h : Nat) (sz : Nat)  : Met l yX0_init wsX0_init ({ frames := 2, cells := 4, slots := 58, locals := 62 } : Room) (va_Pc [.ref h] (WP D z q [(h, .inr (0, [.null, .null]))] sz)) (QT D (va_A [(h, .inr (0, [.null, .null]))] sz) (fun _ => none) (fun _ => True) (fun u : Nat → Nat => [(h, .inr (0, [.ref (u 0), .ref (u 2)])), ((u 0), .inr (1, [.ref (u 1)])), ((u 1), .inl (z 0, 26, .inl (bIdn 26 (fFill (fun _ => 0) 0 26)))), ((u 2), .inr (1, [.ref (u 3)])), ((u 3), .inl (z 0, 30, .inl (bIdn 26 (fFill (fun _ => 0) (-1) 30))))])) 4 58 (va_A [(h, .inr (0, [.null, .null]))] sz) := by
  refine WR_mk (Qc := fun A => QT D A (fun _ => none) (fun _ => True) (fun u : Nat → Nat => [(h, .inr (0, [.ref (u 0), .ref (u 2)])), ((u 0), .inr (1, [.ref (u 1)])), ((u 1), .inl (z 0, 26, .inl (bIdn 26 (fFill (fun _ => 0) 0 26)))), ((u 2), .inr (1, [.ref (u 3)])), ((u 3), .inl (z 0, 30, .inl (bIdn 26 (fFill (fun _ => 0) (-1) 30))))])) (mc := 4) (ms := 58) (cc := cX0_init) (maxL := 2) (ret := none) (by decide) rfl (Nat.le_of_ble_eq_true rfl) ?_
  intro p e s m below meth c A hx hb hr hml hts hown hlocks hin0 H hP hD hE hS hA ls hl
  have hK := hE.1
  have hown : s.vm.findClass RX0 = some m.cls := hown
  have hin : meth.name = "<init>" := hin0 rfl
  have hl : lv_has ls 2 [(0, .ref h)] := hl
  refine lv_aload_n hx hb dX0_init_0 rfl (lv_at hl 0 rfl) ?_
  refine W.objInit hx hb hown (hts (.methodLink RX0 3 objectInit) (List.mem_of_getElem? (i := 1) rfl)) (hts (.instanceMethod objectInit) (List.mem_of_getElem? (i := 2) rfl)) (hts (.code objectInit ⟨#[0xb1]⟩ 1 none) (List.mem_of_getElem? (i := 3) rfl)) rfl (by rw [hml]; exact hl.1) rfl dX0_init_1 (Nat.le_of_ble_eq_true rfl) (Nat.le_of_ble_eq_true rfl) ?_
  refine W.eq (g2 := F0 m 4 ls []) rfl ?_
  refine lv_aload_n hx hb dX0_init_4 rfl (lv_at hl 0 rfl) ?_
  refine va_new (ci := 1) (fs := [.null]) (C := RX1) (T := TX1) (N := 1) hx hb hts in_X0_init_X1 tyX1 tyX1_ok hown (hts (.classLink RX0 9 RX1) (List.mem_of_getElem? (i := 4) rfl)) (hts (.instantiable RX1 1) (List.mem_of_getElem? (i := 5) rfl)) (hts (.initialized RX1) (List.mem_of_getElem? (i := 6) rfl)) hK hP hD hS hA rfl (fun j hj => by rcases (show j = 0 by omega) with rfl <;> rfl) (Nat.le_of_ble_eq_true rfl) (Nat.le_of_ble_eq_true rfl) dX0_init_5 (fun a_1 H hP hD hS => ?_)
  have hP : va_P D vwCl [(h, .inr (0, [.null, .null])), (a_1, .inr (1, [.null]))] H := hP
  have hD : va_D A [(h, .inr (0, [.null, .null])), (a_1, .inr (1, [.null]))] := hD
  refine W.widen (k := 1) (n := 1) (Nat.le_refl _) (Nat.le_refl _) ?_
  refine lv_dup hx hb dX0_init_8 rfl ?_
  refine lv_bipush (v := 26) hx hb dX0_init_9 (by decide) ?_
  refine lv_iconst (v := 0) hx hb dX0_init_11 (by decide) ?_
  refine qtI (As := [.int 26, .int 0]) (rest := [.ref a_1, .ref h]) (wr := [(h, .inr (0, [.null, .null]))]) ⟨hx, hb, hml, hown, hts⟩ (c_X1_init l D z q a_1 26 0 26 H.size rfl (Nat.le_of_ble_eq_true rfl)) (cwI 2 hts gX0_init_X1_init rfl rfl rfl (hts (.initialized RX1) (List.mem_of_getElem? (i := 6) rfl)) (hts (.methodLink RX0 11 yX1_init) (List.mem_of_getElem? (i := 9) rfl)) (hts (.instanceMethod yX1_init) (List.mem_of_getElem? (i := 10) rfl)) rfl hd_X1_init ⟨Nat.le_of_ble_eq_true rfl, Nat.le_of_ble_eq_true rfl⟩) hE hS hA hP hD [1] [0] rfl rfl rfl rfl (by decide) rfl hl.1 rfl (Nat.le_of_ble_eq_true rfl) dX0_init_12 ⟨(Nat.le_of_ble_eq_true rfl), (Nat.le_of_ble_eq_true rfl)⟩ (fun u_2 H locs _ hP hD hS => ?_)
  have hP : va_P D vwCl [(h, .inr (0, [.null, .null])), (a_1, .inr (1, [.ref (u_2 0)])), ((u_2 0), .inl (z 0, 26, .inl (fFill (fun _ => 0) 0 26)))] H := hP
  have hD : va_D A [(h, .inr (0, [.null, .null])), (a_1, .inr (1, [.ref (u_2 0)])), ((u_2 0), .inl (z 0, 26, .inl (fFill (fun _ => 0) 0 26)))] := hD
  refine W.widen (k := 2) (n := 27) (Nat.le_refl _) (Nat.le_refl _) ?_
  refine va_putF (D := D) (ci := 0) (v := .ref a_1) (ty := .object "TypingCoach$Cells") (C := RX0) (T := TX0) (N := 2) hx hb hts in_X0_init_X0 tyX0 tyX0_ok nmX0 hown hK hP hD hS 0 rfl rfl 0 (by decide) (hts (.fieldLink RX0 14 "TypingCoach$Board" "placeOfLetter" "LTypingCoach$Cells;") (List.mem_of_getElem? (i := 7) rfl)) (fun _ h9 => h9) rfl hin rfl (by decide +kernel) rfl rfl (Nat.le_of_ble_eq_true rfl) dX0_init_15 (fun H locs hP hD hS => ?_)
  have hP : va_P D vwCl [(h, .inr (0, [.ref a_1, .null])), (a_1, .inr (1, [.ref (u_2 0)])), ((u_2 0), .inl (z 0, 26, .inl (fFill (fun _ => 0) 0 26)))] H := hP
  have hD : va_D A [(h, .inr (0, [.ref a_1, .null])), (a_1, .inr (1, [.ref (u_2 0)])), ((u_2 0), .inl (z 0, 26, .inl (fFill (fun _ => 0) 0 26)))] := hD
  refine lv_aload_n hx hb dX0_init_18 rfl (lv_at hl 0 rfl) ?_
  refine va_new (ci := 1) (fs := [.null]) (C := RX1) (T := TX1) (N := 1) hx hb hts in_X0_init_X1 tyX1 tyX1_ok hown (hts (.classLink RX0 9 RX1) (List.mem_of_getElem? (i := 4) rfl)) (hts (.instantiable RX1 1) (List.mem_of_getElem? (i := 5) rfl)) (hts (.initialized RX1) (List.mem_of_getElem? (i := 6) rfl)) hK hP hD hS hA rfl (fun j hj => by rcases (show j = 0 by omega) with rfl <;> rfl) (Nat.le_of_ble_eq_true rfl) (Nat.le_of_ble_eq_true rfl) dX0_init_19 (fun a_3 H hP hD hS => ?_)
  have hP : va_P D vwCl [(h, .inr (0, [.ref a_1, .null])), (a_1, .inr (1, [.ref (u_2 0)])), ((u_2 0), .inl (z 0, 26, .inl (fFill (fun _ => 0) 0 26))), (a_3, .inr (1, [.null]))] H := hP
  have hD : va_D A [(h, .inr (0, [.ref a_1, .null])), (a_1, .inr (1, [.ref (u_2 0)])), ((u_2 0), .inl (z 0, 26, .inl (fFill (fun _ => 0) 0 26))), (a_3, .inr (1, [.null]))] := hD
  refine W.widen (k := 3) (n := 28) (Nat.le_refl _) (Nat.le_refl _) ?_
  refine lv_dup hx hb dX0_init_22 rfl ?_
  refine lv_bipush (v := 30) hx hb dX0_init_23 (by decide) ?_
  refine lv_iconst (v := (-1)) hx hb dX0_init_25 (by decide) ?_
  refine qtI (As := [.int 30, .int (-1)]) (rest := [.ref a_3, .ref h]) (wr := [(h, .inr (0, [.ref a_1, .null])), (a_1, .inr (1, [.ref (u_2 0)])), ((u_2 0), .inl (z 0, 26, .inl (fFill (fun _ => 0) 0 26)))]) ⟨hx, hb, hml, hown, hts⟩ (c_X1_init l D z q a_3 30 (-1) 30 H.size rfl (Nat.le_of_ble_eq_true rfl)) (cwI 2 hts gX0_init_X1_init rfl rfl rfl (hts (.initialized RX1) (List.mem_of_getElem? (i := 6) rfl)) (hts (.methodLink RX0 11 yX1_init) (List.mem_of_getElem? (i := 9) rfl)) (hts (.instanceMethod yX1_init) (List.mem_of_getElem? (i := 10) rfl)) rfl hd_X1_init ⟨Nat.le_of_ble_eq_true rfl, Nat.le_of_ble_eq_true rfl⟩) hE hS hA hP hD [3] [0, 1, 2] rfl rfl rfl rfl (by decide) rfl hl.1 rfl (Nat.le_of_ble_eq_true rfl) dX0_init_26 ⟨(Nat.le_of_ble_eq_true rfl), (Nat.le_of_ble_eq_true rfl)⟩ (fun u_4 H locs _ hP hD hS => ?_)
  have hP : va_P D vwCl [(h, .inr (0, [.ref a_1, .null])), (a_1, .inr (1, [.ref (u_2 0)])), ((u_2 0), .inl (z 0, 26, .inl (fFill (fun _ => 0) 0 26))), (a_3, .inr (1, [.ref (u_4 0)])), ((u_4 0), .inl (z 0, 30, .inl (fFill (fun _ => 0) (-1) 30)))] H := hP
  have hD : va_D A [(h, .inr (0, [.ref a_1, .null])), (a_1, .inr (1, [.ref (u_2 0)])), ((u_2 0), .inl (z 0, 26, .inl (fFill (fun _ => 0) 0 26))), (a_3, .inr (1, [.ref (u_4 0)])), ((u_4 0), .inl (z 0, 30, .inl (fFill (fun _ => 0) (-1) 30)))] := hD
  refine W.widen (k := 4) (n := 58) (Nat.le_refl _) (Nat.le_refl _) ?_
  refine va_putF (D := D) (ci := 0) (v := .ref a_3) (ty := .object "TypingCoach$Cells") (C := RX0) (T := TX0) (N := 2) hx hb hts in_X0_init_X0 tyX0 tyX0_ok nmX0 hown hK hP hD hS 0 rfl rfl 1 (by decide) (hts (.fieldLink RX0 20 "TypingCoach$Board" "letterOfPlace" "LTypingCoach$Cells;") (List.mem_of_getElem? (i := 8) rfl)) (fun _ h9 => h9) rfl hin rfl (by decide +kernel) rfl rfl (Nat.le_of_ble_eq_true rfl) dX0_init_29 (fun H locs hP hD hS => ?_)
  have hP : va_P D vwCl [(h, .inr (0, [.ref a_1, .ref a_3])), (a_1, .inr (1, [.ref (u_2 0)])), ((u_2 0), .inl (z 0, 26, .inl (fFill (fun _ => 0) 0 26))), (a_3, .inr (1, [.ref (u_4 0)])), ((u_4 0), .inl (z 0, 30, .inl (fFill (fun _ => 0) (-1) 30)))] H := hP
  have hD : va_D A [(h, .inr (0, [.ref a_1, .ref a_3])), (a_1, .inr (1, [.ref (u_2 0)])), ((u_2 0), .inl (z 0, 26, .inl (fFill (fun _ => 0) 0 26))), (a_3, .inr (1, [.ref (u_4 0)])), ((u_4 0), .inl (z 0, 30, .inl (fFill (fun _ => 0) (-1) 30)))] := hD
  refine lv_iconst (v := 0) hx hb dX0_init_32 (by decide) ?_
  refine lv_istore_n (lv' := [(1, .int 0), (0, .ref h)]) hx hb dX0_init_33 rfl hl (by decide) rfl (fun ls hl => ?_)
  have loop_5 : ∀ (n : Nat) (j : Nat), j ≤ 26 → 26 < j + n → ∀ (H : Heap) (locs : List Loc), va_P D vwCl [(h, .inr (0, [.ref a_1, .ref a_3])), (a_1, .inr (1, [.ref (u_2 0)])), ((u_2 0), .inl (z 0, 26, .inl (bIdn j (fFill (fun _ => 0) 0 26)))), (a_3, .inr (1, [.ref (u_4 0)])), ((u_4 0), .inl (z 0, 30, .inl (bIdn j (fFill (fun _ => 0) (-1) 30))))] H → va_D A [(h, .inr (0, [.ref a_1, .ref a_3])), (a_1, .inr (1, [.ref (u_2 0)])), ((u_2 0), .inl (z 0, 26, .inl (bIdn j (fFill (fun _ => 0) 0 26)))), (a_3, .inr (1, [.ref (u_4 0)])), ((u_4 0), .inl (z 0, 30, .inl (bIdn j (fFill (fun _ => 0) (-1) 30))))] → va_S A s.heap H locs → ∀ ls : Array Slot, lv_has ls 2 [(1, .int (nI j)), (0, .ref h)] → W p l e ({ frames := 2, cells := 4, slots := 58, locals := 62 } : Room) s m ([.ref h] : List Value).toArray below meth c H locs 4 58 (MQ below (QT D A (fun _ => none) (fun _ => True) (fun u : Nat → Nat => [(h, .inr (0, [.ref (u 0), .ref (u 2)])), ((u 0), .inr (1, [.ref (u 1)])), ((u 1), .inl (z 0, 26, .inl (bIdn 26 (fFill (fun _ => 0) 0 26)))), ((u 2), .inr (1, [.ref (u 3)])), ((u 3), .inl (z 0, 30, .inl (bIdn 26 (fFill (fun _ => 0) (-1) 30))))])) ([.ref h] : List Value).toArray s 4 58 A) (F0 m 34 ls []) := by
    intro n
    induction n with
    | zero => intro j hj hf; exact absurd hf (by omega)
    | succ n ih =>
      intro j hj hf H locs hP hD hS ls hl
      refine lv_iload_n hx hb dX0_init_34 rfl (lv_at hl 0 rfl) ?_
      refine lv_bipush (v := 26) hx hb dX0_init_35 (by decide) ?_
      refine lv_icmp_ge (tgt := 64) hx hb dX0_init_37 (by decide) (fun c_6 => ?_) (fun c_6 => ?_)
      · have hj2 : j = 26 := lpx c_6 hj (Nat.le_of_ble_eq_true rfl) rfl
        have hP := sub_map (ws' := [(h, .inr (0, [.ref a_1, .ref a_3])), (a_1, .inr (1, [.ref (u_2 0)])), ((u_2 0), .inl (z 0, 26, .inl (bIdn j (fFill (fun _ => 0) 0 26)))), (a_3, .inr (1, [.ref (u_4 0)])), ((u_4 0), .inl (z 0, 30, .inl (bIdn j (fFill (fun _ => 0) (-1) 30))))]) hP [0, 1, 2, 3, 4] rfl
        have hD := hD.sub (ws' := [(h, .inr (0, [.ref a_1, .ref a_3])), (a_1, .inr (1, [.ref (u_2 0)])), ((u_2 0), .inl (z 0, 26, .inl (bIdn j (fFill (fun _ => 0) 0 26)))), (a_3, .inr (1, [.ref (u_4 0)])), ((u_4 0), .inl (z 0, 30, .inl (bIdn j (fFill (fun _ => 0) (-1) 30))))]) [0, 1, 2, 3, 4] (by decide) rfl
        exact qt_v (fun k => ([a_1, (u_2 0), a_3, (u_4 0)] : List Nat).getD k 0) hx hb hr hlocks hP hD hS dX0_init_64 rfl (by rw [hj2]; rfl) trivial (Nat.le_refl _) (Nat.le_refl _)
      · have hjl : j < 26 := lpn c_6 hj (Nat.le_of_ble_eq_true rfl) rfl
        refine lv_aload_n hx hb dX0_init_40 rfl (lv_at hl 1 rfl) ?_
        refine va_get (D := D) (ci := 0) (v := .ref a_1) (C := RX0) (T := TX0) (N := 2) hx hb hts in_X0_init_X0 hown hK hP 0 rfl rfl 0 (by decide) (hts (.fieldLink RX0 14 "TypingCoach$Board" "placeOfLetter" "LTypingCoach$Cells;") (List.mem_of_getElem? (i := 7) rfl)) (fun _ h9 => h9) rfl dX0_init_41 ?_
        refine lv_iload_n hx hb dX0_init_44 rfl (lv_at hl 0 rfl) ?_
        refine lv_iload_n hx hb dX0_init_45 rfl (lv_at hl 0 rfl) ?_
        refine wrVv (As := [.int (nI j), .int (nI j)]) (rest := []) ⟨hx, hb, hml, hown, hts⟩ (c_X1_set l D z q a_1 (u_2 0) 26 (bIdn j (fFill (fun _ => 0) 0 26)) (nI j) (nI j) H.size (Nat.le_of_ble_eq_true rfl)) (cwV 2 hts gX0_init_X1_set rfl rfl rfl hd_X1_set ⟨Nat.le_of_ble_eq_true rfl, Nat.le_of_ble_eq_true rfl⟩) hE hS hA hP hD [1, 2] rfl rfl rfl rfl rfl rfl rfl hl.1 rfl (Nat.le_of_ble_eq_true rfl) dX0_init_46 ⟨(Nat.le_of_ble_eq_true rfl), (Nat.le_of_ble_eq_true rfl)⟩ (fun H locs hP hD hS => ?_)
        have hP : va_P D vwCl [(h, .inr (0, [.ref a_1, .ref a_3])), (a_1, .inr (1, [.ref (u_2 0)])), ((u_2 0), .inl (z 0, 26, .inl (cSet 26 (bIdn j (fFill (fun _ => 0) 0 26)) (nI j) (nI j)))), (a_3, .inr (1, [.ref (u_4 0)])), ((u_4 0), .inl (z 0, 30, .inl (bIdn j (fFill (fun _ => 0) (-1) 30))))] H := hP
        have hD : va_D A [(h, .inr (0, [.ref a_1, .ref a_3])), (a_1, .inr (1, [.ref (u_2 0)])), ((u_2 0), .inl (z 0, 26, .inl (cSet 26 (bIdn j (fFill (fun _ => 0) 0 26)) (nI j) (nI j)))), (a_3, .inr (1, [.ref (u_4 0)])), ((u_4 0), .inl (z 0, 30, .inl (bIdn j (fFill (fun _ => 0) (-1) 30))))] := hD
        refine lv_aload_n hx hb dX0_init_49 rfl (lv_at hl 1 rfl) ?_
        refine va_get (D := D) (ci := 0) (v := .ref a_3) (C := RX0) (T := TX0) (N := 2) hx hb hts in_X0_init_X0 hown hK hP 0 rfl rfl 1 (by decide) (hts (.fieldLink RX0 20 "TypingCoach$Board" "letterOfPlace" "LTypingCoach$Cells;") (List.mem_of_getElem? (i := 8) rfl)) (fun _ h9 => h9) rfl dX0_init_50 ?_
        refine lv_iload_n hx hb dX0_init_53 rfl (lv_at hl 0 rfl) ?_
        refine lv_iload_n hx hb dX0_init_54 rfl (lv_at hl 0 rfl) ?_
        refine wrVv (As := [.int (nI j), .int (nI j)]) (rest := []) ⟨hx, hb, hml, hown, hts⟩ (c_X1_set l D z q a_3 (u_4 0) 30 (bIdn j (fFill (fun _ => 0) (-1) 30)) (nI j) (nI j) H.size (Nat.le_of_ble_eq_true rfl)) (cwV 2 hts gX0_init_X1_set rfl rfl rfl hd_X1_set ⟨Nat.le_of_ble_eq_true rfl, Nat.le_of_ble_eq_true rfl⟩) hE hS hA hP hD [3, 4] rfl rfl rfl rfl rfl rfl rfl hl.1 rfl (Nat.le_of_ble_eq_true rfl) dX0_init_55 ⟨(Nat.le_of_ble_eq_true rfl), (Nat.le_of_ble_eq_true rfl)⟩ (fun H locs hP hD hS => ?_)
        have hP : va_P D vwCl [(h, .inr (0, [.ref a_1, .ref a_3])), (a_1, .inr (1, [.ref (u_2 0)])), ((u_2 0), .inl (z 0, 26, .inl (cSet 26 (bIdn j (fFill (fun _ => 0) 0 26)) (nI j) (nI j)))), (a_3, .inr (1, [.ref (u_4 0)])), ((u_4 0), .inl (z 0, 30, .inl (cSet 30 (bIdn j (fFill (fun _ => 0) (-1) 30)) (nI j) (nI j))))] H := hP
        have hD : va_D A [(h, .inr (0, [.ref a_1, .ref a_3])), (a_1, .inr (1, [.ref (u_2 0)])), ((u_2 0), .inl (z 0, 26, .inl (cSet 26 (bIdn j (fFill (fun _ => 0) 0 26)) (nI j) (nI j)))), (a_3, .inr (1, [.ref (u_4 0)])), ((u_4 0), .inl (z 0, 30, .inl (cSet 30 (bIdn j (fFill (fun _ => 0) (-1) 30)) (nI j) (nI j))))] := hD
        refine lv_iinc (v := nI (j + 1)) (lv' := [(1, .int (nI (j + 1))), (0, .ref h)]) hx hb dX0_init_58 hl (k := 0) rfl (nI_1 j) (by decide) rfl (fun ls hl => ?_)
        refine lv_goto (tgt := 34) hx hb dX0_init_61 (by decide) ?_
        rw [bIdn_s (n := 26) _ hjl (Nat.le_of_ble_eq_true rfl), bIdn_s (n := 30) _ (by omega) (Nat.le_of_ble_eq_true rfl)] at hP hD
        exact ih (j + 1) (by omega) (by omega) _ _ hP hD hS ls (lv_sub hl [0, 1] rfl)
  exact loop_5 27 0 (by omega) (by omega) _ _ (by simp only [bIdn_0]; exact hP) (by simp only [bIdn_0]; exact hD) hS ls (lv_sub hl [0, 1] rfl)
set_option maxRecDepth 20000 in
theorem in_X2_init_X1 : ∀ w ∈ wsX10, w ∈ wsX2_init := mem_r _ [27] (by decide +kernel)
set_option maxRecDepth 20000 in
theorem in_X2_init_X2 : ∀ w ∈ wsX20, w ∈ wsX2_init := mem_r _ [28, 29, 30, 31, 32, 33] (by decide +kernel)
theorem hd_X2_init : yX2_init.cls ≠ "java/lang/invoke/MethodHandle" ∧ yX2_init.cls ≠ "java/lang/invoke/VarHandle" ∧ (parseMethodDescriptor yX2_init.desc).map (fun d => d.parameters.length) = some 0 := by decide +kernel
set_option maxHeartbeats 4000000 in
set_option maxRecDepth 100000 in
theorem c_X2_init (l : Launch) (D : va_G) (z : Nat → ClassId) (q : Nat → Nat) (h : Nat) (wt : Int32) (wh : Int32) (sz : Nat)  : Met l yX2_init wsX2_init ({ frames := 2, cells := 8, slots := 758, locals := 62 } : Room) (va_Pc [.ref h] (WP D z q [(h, .inr (2, [.null, .null, .null, .null, .int wt, .int wh]))] sz)) (QT D (va_A [(h, .inr (2, [.null, .null, .null, .null, .int wt, .int wh]))] sz) (fun _ => none) (fun _ => True) (fun u : Nat → Nat => [(h, .inr (2, [.ref (u 0), .ref (u 2), .ref (u 4), .ref (u 6), .int 300, .int 1000])), ((u 0), .inr (1, [.ref (u 1)])), ((u 1), .inl (z 0, 26, .inl (fFill (fun _ => 0) 0 26))), ((u 2), .inr (1, [.ref (u 3)])), ((u 3), .inl (z 0, 26, .inl (fFill (fun _ => 0) 400 26))), ((u 4), .inr (1, [.ref (u 5)])), ((u 5), .inl (z 0, 26, .inl (fFill (fun _ => 0) 0 26))), ((u 6), .inr (1, [.ref (u 7)])), ((u 7), .inl (z 0, 676, .inl (fFill (fun _ => 0) 400 676)))])) 8 758 (va_A [(h, .inr (2, [.null, .null, .null, .null, .int wt, .int wh]))] sz) := by
  refine WR_mk (Qc := fun A => QT D A (fun _ => none) (fun _ => True) (fun u : Nat → Nat => [(h, .inr (2, [.ref (u 0), .ref (u 2), .ref (u 4), .ref (u 6), .int 300, .int 1000])), ((u 0), .inr (1, [.ref (u 1)])), ((u 1), .inl (z 0, 26, .inl (fFill (fun _ => 0) 0 26))), ((u 2), .inr (1, [.ref (u 3)])), ((u 3), .inl (z 0, 26, .inl (fFill (fun _ => 0) 400 26))), ((u 4), .inr (1, [.ref (u 5)])), ((u 5), .inl (z 0, 26, .inl (fFill (fun _ => 0) 0 26))), ((u 6), .inr (1, [.ref (u 7)])), ((u 7), .inl (z 0, 676, .inl (fFill (fun _ => 0) 400 676)))])) (mc := 8) (ms := 758) (cc := cX2_init) (maxL := 1) (ret := none) (by decide) rfl (Nat.le_of_ble_eq_true rfl) ?_
  intro p e s m below meth c A hx hb hr hml hts hown hlocks hin0 H hP hD hE hS hA ls hl
  have hK := hE.1
  have hown : s.vm.findClass RX2 = some m.cls := hown
  have hin : meth.name = "<init>" := hin0 rfl
  have hl : lv_has ls 1 [(0, .ref h)] := hl
  refine lv_aload_n hx hb dX2_init_0 rfl (lv_at hl 0 rfl) ?_
  refine W.objInit hx hb hown (hts (.methodLink RX2 3 objectInit) (List.mem_of_getElem? (i := 1) rfl)) (hts (.instanceMethod objectInit) (List.mem_of_getElem? (i := 2) rfl)) (hts (.code objectInit ⟨#[0xb1]⟩ 1 none) (List.mem_of_getElem? (i := 3) rfl)) rfl (by rw [hml]; exact hl.1) rfl dX2_init_1 (Nat.le_of_ble_eq_true rfl) (Nat.le_of_ble_eq_true rfl) ?_
  refine W.eq (g2 := F0 m 4 ls []) rfl ?_
  refine lv_aload_n hx hb dX2_init_4 rfl (lv_at hl 0 rfl) ?_
  refine va_new (ci := 1) (fs := [.null]) (C := RX1) (T := TX1) (N := 1) hx hb hts in_X2_init_X1 tyX1 tyX1_ok hown (hts (.classLink RX2 9 RX1) (List.mem_of_getElem? (i := 4) rfl)) (hts (.instantiable RX1 1) (List.mem_of_getElem? (i := 5) rfl)) (hts (.initialized RX1) (List.mem_of_getElem? (i := 6) rfl)) hK hP hD hS hA rfl (fun j hj => by rcases (show j = 0 by omega) with rfl <;> rfl) (Nat.le_of_ble_eq_true rfl) (Nat.le_of_ble_eq_true rfl) dX2_init_5 (fun a_1 H hP hD hS => ?_)
  have hP : va_P D vwCl [(h, .inr (2, [.null, .null, .null, .null, .int wt, .int wh])), (a_1, .inr (1, [.null]))] H := hP
  have hD : va_D A [(h, .inr (2, [.null, .null, .null, .null, .int wt, .int wh])), (a_1, .inr (1, [.null]))] := hD
  refine W.widen (k := 1) (n := 1) (Nat.le_refl _) (Nat.le_refl _) ?_
  refine lv_dup hx hb dX2_init_8 rfl ?_
  refine lv_bipush (v := 26) hx hb dX2_init_9 (by decide) ?_
  refine lv_iconst (v := 0) hx hb dX2_init_11 (by decide) ?_
  refine qtI (As := [.int 26, .int 0]) (rest := [.ref a_1, .ref h]) (wr := [(h, .inr (2, [.null, .null, .null, .null, .int wt, .int wh]))]) ⟨hx, hb, hml, hown, hts⟩ (c_X1_init l D z q a_1 26 0 26 H.size rfl (Nat.le_of_ble_eq_true rfl)) (cwI 2 hts gX2_init_X1_init rfl rfl rfl (hts (.initialized RX1) (List.mem_of_getElem? (i := 6) rfl)) (hts (.methodLink RX2 11 yX1_init) (List.mem_of_getElem? (i := 13) rfl)) (hts (.instanceMethod yX1_init) (List.mem_of_getElem? (i := 14) rfl)) rfl hd_X1_init ⟨Nat.le_of_ble_eq_true rfl, Nat.le_of_ble_eq_true rfl⟩) hE hS hA hP hD [1] [0] rfl rfl rfl rfl (by decide) rfl hl.1 rfl (Nat.le_of_ble_eq_true rfl) dX2_init_12 ⟨(Nat.le_of_ble_eq_true rfl), (Nat.le_of_ble_eq_true rfl)⟩ (fun u_2 H locs _ hP hD hS => ?_)
  have hP : va_P D vwCl [(h, .inr (2, [.null, .null, .null, .null, .int wt, .int wh])), (a_1, .inr (1, [.ref (u_2 0)])), ((u_2 0), .inl (z 0, 26, .inl (fFill (fun _ => 0) 0 26)))] H := hP
  have hD : va_D A [(h, .inr (2, [.null, .null, .null, .null, .int wt, .int wh])), (a_1, .inr (1, [.ref (u_2 0)])), ((u_2 0), .inl (z 0, 26, .inl (fFill (fun _ => 0) 0 26)))] := hD
  refine W.widen (k := 2) (n := 27) (Nat.le_refl _) (Nat.le_refl _) ?_
  refine va_putF (D := D) (ci := 2) (v := .ref a_1) (ty := .object "TypingCoach$Cells") (C := RX2) (T := TX2) (N := 6) hx hb hts in_X2_init_X2 tyX2 tyX2_ok nmX2 hown hK hP hD hS 0 rfl rfl 0 (by decide) (hts (.fieldLink RX2 14 "TypingCoach$Figures" "counts" "LTypingCoach$Cells;") (List.mem_of_getElem? (i := 7) rfl)) (fun _ h9 => h9) rfl hin rfl (by decide +kernel) rfl rfl (Nat.le_of_ble_eq_true rfl) dX2_init_15 (fun H locs hP hD hS => ?_)
  have hP : va_P D vwCl [(h, .inr (2, [.ref a_1, .null, .null, .null, .int wt, .int wh])), (a_1, .inr (1, [.ref (u_2 0)])), ((u_2 0), .inl (z 0, 26, .inl (fFill (fun _ => 0) 0 26)))] H := hP
  have hD : va_D A [(h, .inr (2, [.ref a_1, .null, .null, .null, .int wt, .int wh])), (a_1, .inr (1, [.ref (u_2 0)])), ((u_2 0), .inl (z 0, 26, .inl (fFill (fun _ => 0) 0 26)))] := hD
  refine lv_aload_n hx hb dX2_init_18 rfl (lv_at hl 0 rfl) ?_
  refine va_new (ci := 1) (fs := [.null]) (C := RX1) (T := TX1) (N := 1) hx hb hts in_X2_init_X1 tyX1 tyX1_ok hown (hts (.classLink RX2 9 RX1) (List.mem_of_getElem? (i := 4) rfl)) (hts (.instantiable RX1 1) (List.mem_of_getElem? (i := 5) rfl)) (hts (.initialized RX1) (List.mem_of_getElem? (i := 6) rfl)) hK hP hD hS hA rfl (fun j hj => by rcases (show j = 0 by omega) with rfl <;> rfl) (Nat.le_of_ble_eq_true rfl) (Nat.le_of_ble_eq_true rfl) dX2_init_19 (fun a_3 H hP hD hS => ?_)
  have hP : va_P D vwCl [(h, .inr (2, [.ref a_1, .null, .null, .null, .int wt, .int wh])), (a_1, .inr (1, [.ref (u_2 0)])), ((u_2 0), .inl (z 0, 26, .inl (fFill (fun _ => 0) 0 26))), (a_3, .inr (1, [.null]))] H := hP
  have hD : va_D A [(h, .inr (2, [.ref a_1, .null, .null, .null, .int wt, .int wh])), (a_1, .inr (1, [.ref (u_2 0)])), ((u_2 0), .inl (z 0, 26, .inl (fFill (fun _ => 0) 0 26))), (a_3, .inr (1, [.null]))] := hD
  refine W.widen (k := 3) (n := 28) (Nat.le_refl _) (Nat.le_refl _) ?_
  refine lv_dup hx hb dX2_init_22 rfl ?_
  refine lv_bipush (v := 26) hx hb dX2_init_23 (by decide) ?_
  refine lv_sipush (v := 400) hx hb dX2_init_25 (by decide) ?_
  refine qtI (As := [.int 26, .int 400]) (rest := [.ref a_3, .ref h]) (wr := [(h, .inr (2, [.ref a_1, .null, .null, .null, .int wt, .int wh])), (a_1, .inr (1, [.ref (u_2 0)])), ((u_2 0), .inl (z 0, 26, .inl (fFill (fun _ => 0) 0 26)))]) ⟨hx, hb, hml, hown, hts⟩ (c_X1_init l D z q a_3 26 400 26 H.size rfl (Nat.le_of_ble_eq_true rfl)) (cwI 2 hts gX2_init_X1_init rfl rfl rfl (hts (.initialized RX1) (List.mem_of_getElem? (i := 6) rfl)) (hts (.methodLink RX2 11 yX1_init) (List.mem_of_getElem? (i := 13) rfl)) (hts (.instanceMethod yX1_init) (List.mem_of_getElem? (i := 14) rfl)) rfl hd_X1_init ⟨Nat.le_of_ble_eq_true rfl, Nat.le_of_ble_eq_true rfl⟩) hE hS hA hP hD [3] [0, 1, 2] rfl rfl rfl rfl (by decide) rfl hl.1 rfl (Nat.le_of_ble_eq_true rfl) dX2_init_28 ⟨(Nat.le_of_ble_eq_true rfl), (Nat.le_of_ble_eq_true rfl)⟩ (fun u_4 H locs _ hP hD hS => ?_)
  have hP : va_P D vwCl [(h, .inr (2, [.ref a_1, .null, .null, .null, .int wt, .int wh])), (a_1, .inr (1, [.ref (u_2 0)])), ((u_2 0), .inl (z 0, 26, .inl (fFill (fun _ => 0) 0 26))), (a_3, .inr (1, [.ref (u_4 0)])), ((u_4 0), .inl (z 0, 26, .inl (fFill (fun _ => 0) 400 26)))] H := hP
  have hD : va_D A [(h, .inr (2, [.ref a_1, .null, .null, .null, .int wt, .int wh])), (a_1, .inr (1, [.ref (u_2 0)])), ((u_2 0), .inl (z 0, 26, .inl (fFill (fun _ => 0) 0 26))), (a_3, .inr (1, [.ref (u_4 0)])), ((u_4 0), .inl (z 0, 26, .inl (fFill (fun _ => 0) 400 26)))] := hD
  refine W.widen (k := 4) (n := 54) (Nat.le_refl _) (Nat.le_refl _) ?_
  refine va_putF (D := D) (ci := 2) (v := .ref a_3) (ty := .object "TypingCoach$Cells") (C := RX2) (T := TX2) (N := 6) hx hb hts in_X2_init_X2 tyX2 tyX2_ok nmX2 hown hK hP hD hS 0 rfl rfl 1 (by decide) (hts (.fieldLink RX2 20 "TypingCoach$Figures" "times" "LTypingCoach$Cells;") (List.mem_of_getElem? (i := 8) rfl)) (fun _ h9 => h9) rfl hin rfl (by decide +kernel) rfl rfl (Nat.le_of_ble_eq_true rfl) dX2_init_31 (fun H locs hP hD hS => ?_)
  have hP : va_P D vwCl [(h, .inr (2, [.ref a_1, .ref a_3, .null, .null, .int wt, .int wh])), (a_1, .inr (1, [.ref (u_2 0)])), ((u_2 0), .inl (z 0, 26, .inl (fFill (fun _ => 0) 0 26))), (a_3, .inr (1, [.ref (u_4 0)])), ((u_4 0), .inl (z 0, 26, .inl (fFill (fun _ => 0) 400 26)))] H := hP
  have hD : va_D A [(h, .inr (2, [.ref a_1, .ref a_3, .null, .null, .int wt, .int wh])), (a_1, .inr (1, [.ref (u_2 0)])), ((u_2 0), .inl (z 0, 26, .inl (fFill (fun _ => 0) 0 26))), (a_3, .inr (1, [.ref (u_4 0)])), ((u_4 0), .inl (z 0, 26, .inl (fFill (fun _ => 0) 400 26)))] := hD
  refine lv_aload_n hx hb dX2_init_34 rfl (lv_at hl 0 rfl) ?_
  refine va_new (ci := 1) (fs := [.null]) (C := RX1) (T := TX1) (N := 1) hx hb hts in_X2_init_X1 tyX1 tyX1_ok hown (hts (.classLink RX2 9 RX1) (List.mem_of_getElem? (i := 4) rfl)) (hts (.instantiable RX1 1) (List.mem_of_getElem? (i := 5) rfl)) (hts (.initialized RX1) (List.mem_of_getElem? (i := 6) rfl)) hK hP hD hS hA rfl (fun j hj => by rcases (show j = 0 by omega) with rfl <;> rfl) (Nat.le_of_ble_eq_true rfl) (Nat.le_of_ble_eq_true rfl) dX2_init_35 (fun a_5 H hP hD hS => ?_)
  have hP : va_P D vwCl [(h, .inr (2, [.ref a_1, .ref a_3, .null, .null, .int wt, .int wh])), (a_1, .inr (1, [.ref (u_2 0)])), ((u_2 0), .inl (z 0, 26, .inl (fFill (fun _ => 0) 0 26))), (a_3, .inr (1, [.ref (u_4 0)])), ((u_4 0), .inl (z 0, 26, .inl (fFill (fun _ => 0) 400 26))), (a_5, .inr (1, [.null]))] H := hP
  have hD : va_D A [(h, .inr (2, [.ref a_1, .ref a_3, .null, .null, .int wt, .int wh])), (a_1, .inr (1, [.ref (u_2 0)])), ((u_2 0), .inl (z 0, 26, .inl (fFill (fun _ => 0) 0 26))), (a_3, .inr (1, [.ref (u_4 0)])), ((u_4 0), .inl (z 0, 26, .inl (fFill (fun _ => 0) 400 26))), (a_5, .inr (1, [.null]))] := hD
  refine W.widen (k := 5) (n := 55) (Nat.le_refl _) (Nat.le_refl _) ?_
  refine lv_dup hx hb dX2_init_38 rfl ?_
  refine lv_bipush (v := 26) hx hb dX2_init_39 (by decide) ?_
  refine lv_iconst (v := 0) hx hb dX2_init_41 (by decide) ?_
  refine qtI (As := [.int 26, .int 0]) (rest := [.ref a_5, .ref h]) (wr := [(h, .inr (2, [.ref a_1, .ref a_3, .null, .null, .int wt, .int wh])), (a_1, .inr (1, [.ref (u_2 0)])), ((u_2 0), .inl (z 0, 26, .inl (fFill (fun _ => 0) 0 26))), (a_3, .inr (1, [.ref (u_4 0)])), ((u_4 0), .inl (z 0, 26, .inl (fFill (fun _ => 0) 400 26)))]) ⟨hx, hb, hml, hown, hts⟩ (c_X1_init l D z q a_5 26 0 26 H.size rfl (Nat.le_of_ble_eq_true rfl)) (cwI 2 hts gX2_init_X1_init rfl rfl rfl (hts (.initialized RX1) (List.mem_of_getElem? (i := 6) rfl)) (hts (.methodLink RX2 11 yX1_init) (List.mem_of_getElem? (i := 13) rfl)) (hts (.instanceMethod yX1_init) (List.mem_of_getElem? (i := 14) rfl)) rfl hd_X1_init ⟨Nat.le_of_ble_eq_true rfl, Nat.le_of_ble_eq_true rfl⟩) hE hS hA hP hD [5] [0, 1, 2, 3, 4] rfl rfl rfl rfl (by decide) rfl hl.1 rfl (Nat.le_of_ble_eq_true rfl) dX2_init_42 ⟨(Nat.le_of_ble_eq_true rfl), (Nat.le_of_ble_eq_true rfl)⟩ (fun u_6 H locs _ hP hD hS => ?_)
  have hP : va_P D vwCl [(h, .inr (2, [.ref a_1, .ref a_3, .null, .null, .int wt, .int wh])), (a_1, .inr (1, [.ref (u_2 0)])), ((u_2 0), .inl (z 0, 26, .inl (fFill (fun _ => 0) 0 26))), (a_3, .inr (1, [.ref (u_4 0)])), ((u_4 0), .inl (z 0, 26, .inl (fFill (fun _ => 0) 400 26))), (a_5, .inr (1, [.ref (u_6 0)])), ((u_6 0), .inl (z 0, 26, .inl (fFill (fun _ => 0) 0 26)))] H := hP
  have hD : va_D A [(h, .inr (2, [.ref a_1, .ref a_3, .null, .null, .int wt, .int wh])), (a_1, .inr (1, [.ref (u_2 0)])), ((u_2 0), .inl (z 0, 26, .inl (fFill (fun _ => 0) 0 26))), (a_3, .inr (1, [.ref (u_4 0)])), ((u_4 0), .inl (z 0, 26, .inl (fFill (fun _ => 0) 400 26))), (a_5, .inr (1, [.ref (u_6 0)])), ((u_6 0), .inl (z 0, 26, .inl (fFill (fun _ => 0) 0 26)))] := hD
  refine W.widen (k := 6) (n := 81) (Nat.le_refl _) (Nat.le_refl _) ?_
  refine va_putF (D := D) (ci := 2) (v := .ref a_5) (ty := .object "TypingCoach$Cells") (C := RX2) (T := TX2) (N := 6) hx hb hts in_X2_init_X2 tyX2 tyX2_ok nmX2 hown hK hP hD hS 0 rfl rfl 2 (by decide) (hts (.fieldLink RX2 23 "TypingCoach$Figures" "shares" "LTypingCoach$Cells;") (List.mem_of_getElem? (i := 9) rfl)) (fun _ h9 => h9) rfl hin rfl (by decide +kernel) rfl rfl (Nat.le_of_ble_eq_true rfl) dX2_init_45 (fun H locs hP hD hS => ?_)
  have hP : va_P D vwCl [(h, .inr (2, [.ref a_1, .ref a_3, .ref a_5, .null, .int wt, .int wh])), (a_1, .inr (1, [.ref (u_2 0)])), ((u_2 0), .inl (z 0, 26, .inl (fFill (fun _ => 0) 0 26))), (a_3, .inr (1, [.ref (u_4 0)])), ((u_4 0), .inl (z 0, 26, .inl (fFill (fun _ => 0) 400 26))), (a_5, .inr (1, [.ref (u_6 0)])), ((u_6 0), .inl (z 0, 26, .inl (fFill (fun _ => 0) 0 26)))] H := hP
  have hD : va_D A [(h, .inr (2, [.ref a_1, .ref a_3, .ref a_5, .null, .int wt, .int wh])), (a_1, .inr (1, [.ref (u_2 0)])), ((u_2 0), .inl (z 0, 26, .inl (fFill (fun _ => 0) 0 26))), (a_3, .inr (1, [.ref (u_4 0)])), ((u_4 0), .inl (z 0, 26, .inl (fFill (fun _ => 0) 400 26))), (a_5, .inr (1, [.ref (u_6 0)])), ((u_6 0), .inl (z 0, 26, .inl (fFill (fun _ => 0) 0 26)))] := hD
  refine lv_aload_n hx hb dX2_init_48 rfl (lv_at hl 0 rfl) ?_
  refine va_new (ci := 1) (fs := [.null]) (C := RX1) (T := TX1) (N := 1) hx hb hts in_X2_init_X1 tyX1 tyX1_ok hown (hts (.classLink RX2 9 RX1) (List.mem_of_getElem? (i := 4) rfl)) (hts (.instantiable RX1 1) (List.mem_of_getElem? (i := 5) rfl)) (hts (.initialized RX1) (List.mem_of_getElem? (i := 6) rfl)) hK hP hD hS hA rfl (fun j hj => by rcases (show j = 0 by omega) with rfl <;> rfl) (Nat.le_of_ble_eq_true rfl) (Nat.le_of_ble_eq_true rfl) dX2_init_49 (fun a_7 H hP hD hS => ?_)
  have hP : va_P D vwCl [(h, .inr (2, [.ref a_1, .ref a_3, .ref a_5, .null, .int wt, .int wh])), (a_1, .inr (1, [.ref (u_2 0)])), ((u_2 0), .inl (z 0, 26, .inl (fFill (fun _ => 0) 0 26))), (a_3, .inr (1, [.ref (u_4 0)])), ((u_4 0), .inl (z 0, 26, .inl (fFill (fun _ => 0) 400 26))), (a_5, .inr (1, [.ref (u_6 0)])), ((u_6 0), .inl (z 0, 26, .inl (fFill (fun _ => 0) 0 26))), (a_7, .inr (1, [.null]))] H := hP
  have hD : va_D A [(h, .inr (2, [.ref a_1, .ref a_3, .ref a_5, .null, .int wt, .int wh])), (a_1, .inr (1, [.ref (u_2 0)])), ((u_2 0), .inl (z 0, 26, .inl (fFill (fun _ => 0) 0 26))), (a_3, .inr (1, [.ref (u_4 0)])), ((u_4 0), .inl (z 0, 26, .inl (fFill (fun _ => 0) 400 26))), (a_5, .inr (1, [.ref (u_6 0)])), ((u_6 0), .inl (z 0, 26, .inl (fFill (fun _ => 0) 0 26))), (a_7, .inr (1, [.null]))] := hD
  refine W.widen (k := 7) (n := 82) (Nat.le_refl _) (Nat.le_refl _) ?_
  refine lv_dup hx hb dX2_init_52 rfl ?_
  refine lv_sipush (v := 676) hx hb dX2_init_53 (by decide) ?_
  refine lv_sipush (v := 400) hx hb dX2_init_56 (by decide) ?_
  refine qtI (As := [.int 676, .int 400]) (rest := [.ref a_7, .ref h]) (wr := [(h, .inr (2, [.ref a_1, .ref a_3, .ref a_5, .null, .int wt, .int wh])), (a_1, .inr (1, [.ref (u_2 0)])), ((u_2 0), .inl (z 0, 26, .inl (fFill (fun _ => 0) 0 26))), (a_3, .inr (1, [.ref (u_4 0)])), ((u_4 0), .inl (z 0, 26, .inl (fFill (fun _ => 0) 400 26))), (a_5, .inr (1, [.ref (u_6 0)])), ((u_6 0), .inl (z 0, 26, .inl (fFill (fun _ => 0) 0 26)))]) ⟨hx, hb, hml, hown, hts⟩ (c_X1_init l D z q a_7 676 400 676 H.size rfl (Nat.le_of_ble_eq_true rfl)) (cwI 2 hts gX2_init_X1_init rfl rfl rfl (hts (.initialized RX1) (List.mem_of_getElem? (i := 6) rfl)) (hts (.methodLink RX2 11 yX1_init) (List.mem_of_getElem? (i := 13) rfl)) (hts (.instanceMethod yX1_init) (List.mem_of_getElem? (i := 14) rfl)) rfl hd_X1_init ⟨Nat.le_of_ble_eq_true rfl, Nat.le_of_ble_eq_true rfl⟩) hE hS hA hP hD [7] [0, 1, 2, 3, 4, 5, 6] rfl rfl rfl rfl (by decide) rfl hl.1 rfl (Nat.le_of_ble_eq_true rfl) dX2_init_59 ⟨(Nat.le_of_ble_eq_true rfl), (Nat.le_of_ble_eq_true rfl)⟩ (fun u_8 H locs _ hP hD hS => ?_)
  have hP : va_P D vwCl [(h, .inr (2, [.ref a_1, .ref a_3, .ref a_5, .null, .int wt, .int wh])), (a_1, .inr (1, [.ref (u_2 0)])), ((u_2 0), .inl (z 0, 26, .inl (fFill (fun _ => 0) 0 26))), (a_3, .inr (1, [.ref (u_4 0)])), ((u_4 0), .inl (z 0, 26, .inl (fFill (fun _ => 0) 400 26))), (a_5, .inr (1, [.ref (u_6 0)])), ((u_6 0), .inl (z 0, 26, .inl (fFill (fun _ => 0) 0 26))), (a_7, .inr (1, [.ref (u_8 0)])), ((u_8 0), .inl (z 0, 676, .inl (fFill (fun _ => 0) 400 676)))] H := hP
  have hD : va_D A [(h, .inr (2, [.ref a_1, .ref a_3, .ref a_5, .null, .int wt, .int wh])), (a_1, .inr (1, [.ref (u_2 0)])), ((u_2 0), .inl (z 0, 26, .inl (fFill (fun _ => 0) 0 26))), (a_3, .inr (1, [.ref (u_4 0)])), ((u_4 0), .inl (z 0, 26, .inl (fFill (fun _ => 0) 400 26))), (a_5, .inr (1, [.ref (u_6 0)])), ((u_6 0), .inl (z 0, 26, .inl (fFill (fun _ => 0) 0 26))), (a_7, .inr (1, [.ref (u_8 0)])), ((u_8 0), .inl (z 0, 676, .inl (fFill (fun _ => 0) 400 676)))] := hD
  refine W.widen (k := 8) (n := 758) (Nat.le_refl _) (Nat.le_refl _) ?_
  refine va_putF (D := D) (ci := 2) (v := .ref a_7) (ty := .object "TypingCoach$Cells") (C := RX2) (T := TX2) (N := 6) hx hb hts in_X2_init_X2 tyX2 tyX2_ok nmX2 hown hK hP hD hS 0 rfl rfl 3 (by decide) (hts (.fieldLink RX2 26 "TypingCoach$Figures" "pairTimes" "LTypingCoach$Cells;") (List.mem_of_getElem? (i := 10) rfl)) (fun _ h9 => h9) rfl hin rfl (by decide +kernel) rfl rfl (Nat.le_of_ble_eq_true rfl) dX2_init_62 (fun H locs hP hD hS => ?_)
  have hP : va_P D vwCl [(h, .inr (2, [.ref a_1, .ref a_3, .ref a_5, .ref a_7, .int wt, .int wh])), (a_1, .inr (1, [.ref (u_2 0)])), ((u_2 0), .inl (z 0, 26, .inl (fFill (fun _ => 0) 0 26))), (a_3, .inr (1, [.ref (u_4 0)])), ((u_4 0), .inl (z 0, 26, .inl (fFill (fun _ => 0) 400 26))), (a_5, .inr (1, [.ref (u_6 0)])), ((u_6 0), .inl (z 0, 26, .inl (fFill (fun _ => 0) 0 26))), (a_7, .inr (1, [.ref (u_8 0)])), ((u_8 0), .inl (z 0, 676, .inl (fFill (fun _ => 0) 400 676)))] H := hP
  have hD : va_D A [(h, .inr (2, [.ref a_1, .ref a_3, .ref a_5, .ref a_7, .int wt, .int wh])), (a_1, .inr (1, [.ref (u_2 0)])), ((u_2 0), .inl (z 0, 26, .inl (fFill (fun _ => 0) 0 26))), (a_3, .inr (1, [.ref (u_4 0)])), ((u_4 0), .inl (z 0, 26, .inl (fFill (fun _ => 0) 400 26))), (a_5, .inr (1, [.ref (u_6 0)])), ((u_6 0), .inl (z 0, 26, .inl (fFill (fun _ => 0) 0 26))), (a_7, .inr (1, [.ref (u_8 0)])), ((u_8 0), .inl (z 0, 676, .inl (fFill (fun _ => 0) 400 676)))] := hD
  refine lv_aload_n hx hb dX2_init_65 rfl (lv_at hl 0 rfl) ?_
  refine lv_sipush (v := 300) hx hb dX2_init_66 (by decide) ?_
  refine va_put (D := D) (ci := 2) (v := .int 300) (ty := .int) (C := RX2) (T := TX2) (N := 6) hx hb hts in_X2_init_X2 tyX2 tyX2_ok nmX2 hown hK hP hD hS 0 rfl rfl 4 (by decide) (hts (.fieldLink RX2 29 "TypingCoach$Figures" "wishedTime" "I") (List.mem_of_getElem? (i := 11) rfl)) (fun _ h9 => h9) rfl (by decide +kernel) rfl rfl (Nat.le_of_ble_eq_true rfl) dX2_init_69 (fun H locs hP hD hS => ?_)
  have hP : va_P D vwCl [(h, .inr (2, [.ref a_1, .ref a_3, .ref a_5, .ref a_7, .int 300, .int wh])), (a_1, .inr (1, [.ref (u_2 0)])), ((u_2 0), .inl (z 0, 26, .inl (fFill (fun _ => 0) 0 26))), (a_3, .inr (1, [.ref (u_4 0)])), ((u_4 0), .inl (z 0, 26, .inl (fFill (fun _ => 0) 400 26))), (a_5, .inr (1, [.ref (u_6 0)])), ((u_6 0), .inl (z 0, 26, .inl (fFill (fun _ => 0) 0 26))), (a_7, .inr (1, [.ref (u_8 0)])), ((u_8 0), .inl (z 0, 676, .inl (fFill (fun _ => 0) 400 676)))] H := hP
  have hD : va_D A [(h, .inr (2, [.ref a_1, .ref a_3, .ref a_5, .ref a_7, .int 300, .int wh])), (a_1, .inr (1, [.ref (u_2 0)])), ((u_2 0), .inl (z 0, 26, .inl (fFill (fun _ => 0) 0 26))), (a_3, .inr (1, [.ref (u_4 0)])), ((u_4 0), .inl (z 0, 26, .inl (fFill (fun _ => 0) 400 26))), (a_5, .inr (1, [.ref (u_6 0)])), ((u_6 0), .inl (z 0, 26, .inl (fFill (fun _ => 0) 0 26))), (a_7, .inr (1, [.ref (u_8 0)])), ((u_8 0), .inl (z 0, 676, .inl (fFill (fun _ => 0) 400 676)))] := hD
  refine lv_aload_n hx hb dX2_init_72 rfl (lv_at hl 0 rfl) ?_
  refine lv_sipush (v := 1000) hx hb dX2_init_73 (by decide) ?_
  refine va_put (D := D) (ci := 2) (v := .int 1000) (ty := .int) (C := RX2) (T := TX2) (N := 6) hx hb hts in_X2_init_X2 tyX2 tyX2_ok nmX2 hown hK hP hD hS 0 rfl rfl 5 (by decide) (hts (.fieldLink RX2 33 "TypingCoach$Figures" "wishedShare" "I") (List.mem_of_getElem? (i := 12) rfl)) (fun _ h9 => h9) rfl (by decide +kernel) rfl rfl (Nat.le_of_ble_eq_true rfl) dX2_init_76 (fun H locs hP hD hS => ?_)
  have hP : va_P D vwCl [(h, .inr (2, [.ref a_1, .ref a_3, .ref a_5, .ref a_7, .int 300, .int 1000])), (a_1, .inr (1, [.ref (u_2 0)])), ((u_2 0), .inl (z 0, 26, .inl (fFill (fun _ => 0) 0 26))), (a_3, .inr (1, [.ref (u_4 0)])), ((u_4 0), .inl (z 0, 26, .inl (fFill (fun _ => 0) 400 26))), (a_5, .inr (1, [.ref (u_6 0)])), ((u_6 0), .inl (z 0, 26, .inl (fFill (fun _ => 0) 0 26))), (a_7, .inr (1, [.ref (u_8 0)])), ((u_8 0), .inl (z 0, 676, .inl (fFill (fun _ => 0) 400 676)))] H := hP
  have hD : va_D A [(h, .inr (2, [.ref a_1, .ref a_3, .ref a_5, .ref a_7, .int 300, .int 1000])), (a_1, .inr (1, [.ref (u_2 0)])), ((u_2 0), .inl (z 0, 26, .inl (fFill (fun _ => 0) 0 26))), (a_3, .inr (1, [.ref (u_4 0)])), ((u_4 0), .inl (z 0, 26, .inl (fFill (fun _ => 0) 400 26))), (a_5, .inr (1, [.ref (u_6 0)])), ((u_6 0), .inl (z 0, 26, .inl (fFill (fun _ => 0) 0 26))), (a_7, .inr (1, [.ref (u_8 0)])), ((u_8 0), .inl (z 0, 676, .inl (fFill (fun _ => 0) 400 676)))] := hD
  have hP := sub_map (ws' := [(h, .inr (2, [.ref a_1, .ref a_3, .ref a_5, .ref a_7, .int 300, .int 1000])), (a_1, .inr (1, [.ref (u_2 0)])), ((u_2 0), .inl (z 0, 26, .inl (fFill (fun _ => 0) 0 26))), (a_3, .inr (1, [.ref (u_4 0)])), ((u_4 0), .inl (z 0, 26, .inl (fFill (fun _ => 0) 400 26))), (a_5, .inr (1, [.ref (u_6 0)])), ((u_6 0), .inl (z 0, 26, .inl (fFill (fun _ => 0) 0 26))), (a_7, .inr (1, [.ref (u_8 0)])), ((u_8 0), .inl (z 0, 676, .inl (fFill (fun _ => 0) 400 676)))]) hP [0, 1, 2, 3, 4, 5, 6, 7, 8] rfl
  have hD := hD.sub (ws' := [(h, .inr (2, [.ref a_1, .ref a_3, .ref a_5, .ref a_7, .int 300, .int 1000])), (a_1, .inr (1, [.ref (u_2 0)])), ((u_2 0), .inl (z 0, 26, .inl (fFill (fun _ => 0) 0 26))), (a_3, .inr (1, [.ref (u_4 0)])), ((u_4 0), .inl (z 0, 26, .inl (fFill (fun _ => 0) 400 26))), (a_5, .inr (1, [.ref (u_6 0)])), ((u_6 0), .inl (z 0, 26, .inl (fFill (fun _ => 0) 0 26))), (a_7, .inr (1, [.ref (u_8 0)])), ((u_8 0), .inl (z 0, 676, .inl (fFill (fun _ => 0) 400 676)))]) [0, 1, 2, 3, 4, 5, 6, 7, 8] (by decide) rfl
  exact qt_v (fun k => ([a_1, (u_2 0), a_3, (u_4 0), a_5, (u_6 0), a_7, (u_8 0)] : List Nat).getD k 0) hx hb hr hlocks hP hD hS dX2_init_79 rfl (rfl) trivial (Nat.le_refl _) (Nat.le_refl _)
set_option maxRecDepth 20000 in
theorem in_X3_init_X1 : ∀ w ∈ wsX10, w ∈ wsX3_init := mem_r _ [27] (by decide +kernel)
set_option maxRecDepth 20000 in
theorem in_X3_init_X3 : ∀ w ∈ wsX30, w ∈ wsX3_init := mem_r _ [28, 29, 30, 31, 32, 33] (by decide +kernel)
theorem hd_X3_init : yX3_init.cls ≠ "java/lang/invoke/MethodHandle" ∧ yX3_init.cls ≠ "java/lang/invoke/VarHandle" ∧ (parseMethodDescriptor yX3_init.desc).map (fun d => d.parameters.length) = some 0 := by decide +kernel
set_option maxHeartbeats 4000000 in
set_option maxRecDepth 100000 in
theorem c_X3_init (l : Launch) (D : va_G) (z : Nat → ClassId) (q : Nat → Nat) (h : Nat) (zz : Int32) (po : Int32) (me : Int32) (ml : Int32) (sz : Nat)  : Met l yX3_init wsX3_init ({ frames := 2, cells := 4, slots := 82, locals := 62 } : Room) (va_Pc [.ref h] (WP D z q [(h, .inr (3, [.null, .null, .int zz, .int po, .int me, .int ml]))] sz)) (QT D (va_A [(h, .inr (3, [.null, .null, .int zz, .int po, .int me, .int ml]))] sz) (fun _ => none) (fun _ => True) (fun u : Nat → Nat => [(h, .inr (3, [.ref (u 0), .ref (u 2), .int 0, .int 0, .int 0, .int 0])), ((u 0), .inr (1, [.ref (u 1)])), ((u 1), .inl (z 0, 40, .inl (fFill (fun _ => 0) (-1) 40))), ((u 2), .inr (1, [.ref (u 3)])), ((u 3), .inl (z 0, 40, .inl (fFill (fun _ => 0) (-1) 40)))])) 4 82 (va_A [(h, .inr (3, [.null, .null, .int zz, .int po, .int me, .int ml]))] sz) := by
  refine WR_mk (Qc := fun A => QT D A (fun _ => none) (fun _ => True) (fun u : Nat → Nat => [(h, .inr (3, [.ref (u 0), .ref (u 2), .int 0, .int 0, .int 0, .int 0])), ((u 0), .inr (1, [.ref (u 1)])), ((u 1), .inl (z 0, 40, .inl (fFill (fun _ => 0) (-1) 40))), ((u 2), .inr (1, [.ref (u 3)])), ((u 3), .inl (z 0, 40, .inl (fFill (fun _ => 0) (-1) 40)))])) (mc := 4) (ms := 82) (cc := cX3_init) (maxL := 1) (ret := none) (by decide) rfl (Nat.le_of_ble_eq_true rfl) ?_
  intro p e s m below meth c A hx hb hr hml hts hown hlocks hin0 H hP hD hE hS hA ls hl
  have hK := hE.1
  have hown : s.vm.findClass RX3 = some m.cls := hown
  have hin : meth.name = "<init>" := hin0 rfl
  have hl : lv_has ls 1 [(0, .ref h)] := hl
  refine lv_aload_n hx hb dX3_init_0 rfl (lv_at hl 0 rfl) ?_
  refine W.objInit hx hb hown (hts (.methodLink RX3 3 objectInit) (List.mem_of_getElem? (i := 1) rfl)) (hts (.instanceMethod objectInit) (List.mem_of_getElem? (i := 2) rfl)) (hts (.code objectInit ⟨#[0xb1]⟩ 1 none) (List.mem_of_getElem? (i := 3) rfl)) rfl (by rw [hml]; exact hl.1) rfl dX3_init_1 (Nat.le_of_ble_eq_true rfl) (Nat.le_of_ble_eq_true rfl) ?_
  refine W.eq (g2 := F0 m 4 ls []) rfl ?_
  refine lv_aload_n hx hb dX3_init_4 rfl (lv_at hl 0 rfl) ?_
  refine va_new (ci := 1) (fs := [.null]) (C := RX1) (T := TX1) (N := 1) hx hb hts in_X3_init_X1 tyX1 tyX1_ok hown (hts (.classLink RX3 9 RX1) (List.mem_of_getElem? (i := 4) rfl)) (hts (.instantiable RX1 1) (List.mem_of_getElem? (i := 5) rfl)) (hts (.initialized RX1) (List.mem_of_getElem? (i := 6) rfl)) hK hP hD hS hA rfl (fun j hj => by rcases (show j = 0 by omega) with rfl <;> rfl) (Nat.le_of_ble_eq_true rfl) (Nat.le_of_ble_eq_true rfl) dX3_init_5 (fun a_1 H hP hD hS => ?_)
  have hP : va_P D vwCl [(h, .inr (3, [.null, .null, .int zz, .int po, .int me, .int ml])), (a_1, .inr (1, [.null]))] H := hP
  have hD : va_D A [(h, .inr (3, [.null, .null, .int zz, .int po, .int me, .int ml])), (a_1, .inr (1, [.null]))] := hD
  refine W.widen (k := 1) (n := 1) (Nat.le_refl _) (Nat.le_refl _) ?_
  refine lv_dup hx hb dX3_init_8 rfl ?_
  refine lv_bipush (v := 40) hx hb dX3_init_9 (by decide) ?_
  refine lv_iconst (v := (-1)) hx hb dX3_init_11 (by decide) ?_
  refine qtI (As := [.int 40, .int (-1)]) (rest := [.ref a_1, .ref h]) (wr := [(h, .inr (3, [.null, .null, .int zz, .int po, .int me, .int ml]))]) ⟨hx, hb, hml, hown, hts⟩ (c_X1_init l D z q a_1 40 (-1) 40 H.size rfl (Nat.le_of_ble_eq_true rfl)) (cwI 2 hts gX3_init_X1_init rfl rfl rfl (hts (.initialized RX1) (List.mem_of_getElem? (i := 6) rfl)) (hts (.methodLink RX3 11 yX1_init) (List.mem_of_getElem? (i := 13) rfl)) (hts (.instanceMethod yX1_init) (List.mem_of_getElem? (i := 14) rfl)) rfl hd_X1_init ⟨Nat.le_of_ble_eq_true rfl, Nat.le_of_ble_eq_true rfl⟩) hE hS hA hP hD [1] [0] rfl rfl rfl rfl (by decide) rfl hl.1 rfl (Nat.le_of_ble_eq_true rfl) dX3_init_12 ⟨(Nat.le_of_ble_eq_true rfl), (Nat.le_of_ble_eq_true rfl)⟩ (fun u_2 H locs _ hP hD hS => ?_)
  have hP : va_P D vwCl [(h, .inr (3, [.null, .null, .int zz, .int po, .int me, .int ml])), (a_1, .inr (1, [.ref (u_2 0)])), ((u_2 0), .inl (z 0, 40, .inl (fFill (fun _ => 0) (-1) 40)))] H := hP
  have hD : va_D A [(h, .inr (3, [.null, .null, .int zz, .int po, .int me, .int ml])), (a_1, .inr (1, [.ref (u_2 0)])), ((u_2 0), .inl (z 0, 40, .inl (fFill (fun _ => 0) (-1) 40)))] := hD
  refine W.widen (k := 2) (n := 41) (Nat.le_refl _) (Nat.le_refl _) ?_
  refine va_putF (D := D) (ci := 3) (v := .ref a_1) (ty := .object "TypingCoach$Cells") (C := RX3) (T := TX3) (N := 6) hx hb hts in_X3_init_X3 tyX3 tyX3_ok nmX3 hown hK hP hD hS 0 rfl rfl 0 (by decide) (hts (.fieldLink RX3 14 "TypingCoach$Lesson" "letters" "LTypingCoach$Cells;") (List.mem_of_getElem? (i := 7) rfl)) (fun _ h9 => h9) rfl hin rfl (by decide +kernel) rfl rfl (Nat.le_of_ble_eq_true rfl) dX3_init_15 (fun H locs hP hD hS => ?_)
  have hP : va_P D vwCl [(h, .inr (3, [.ref a_1, .null, .int zz, .int po, .int me, .int ml])), (a_1, .inr (1, [.ref (u_2 0)])), ((u_2 0), .inl (z 0, 40, .inl (fFill (fun _ => 0) (-1) 40)))] H := hP
  have hD : va_D A [(h, .inr (3, [.ref a_1, .null, .int zz, .int po, .int me, .int ml])), (a_1, .inr (1, [.ref (u_2 0)])), ((u_2 0), .inl (z 0, 40, .inl (fFill (fun _ => 0) (-1) 40)))] := hD
  refine lv_aload_n hx hb dX3_init_18 rfl (lv_at hl 0 rfl) ?_
  refine va_new (ci := 1) (fs := [.null]) (C := RX1) (T := TX1) (N := 1) hx hb hts in_X3_init_X1 tyX1 tyX1_ok hown (hts (.classLink RX3 9 RX1) (List.mem_of_getElem? (i := 4) rfl)) (hts (.instantiable RX1 1) (List.mem_of_getElem? (i := 5) rfl)) (hts (.initialized RX1) (List.mem_of_getElem? (i := 6) rfl)) hK hP hD hS hA rfl (fun j hj => by rcases (show j = 0 by omega) with rfl <;> rfl) (Nat.le_of_ble_eq_true rfl) (Nat.le_of_ble_eq_true rfl) dX3_init_19 (fun a_3 H hP hD hS => ?_)
  have hP : va_P D vwCl [(h, .inr (3, [.ref a_1, .null, .int zz, .int po, .int me, .int ml])), (a_1, .inr (1, [.ref (u_2 0)])), ((u_2 0), .inl (z 0, 40, .inl (fFill (fun _ => 0) (-1) 40))), (a_3, .inr (1, [.null]))] H := hP
  have hD : va_D A [(h, .inr (3, [.ref a_1, .null, .int zz, .int po, .int me, .int ml])), (a_1, .inr (1, [.ref (u_2 0)])), ((u_2 0), .inl (z 0, 40, .inl (fFill (fun _ => 0) (-1) 40))), (a_3, .inr (1, [.null]))] := hD
  refine W.widen (k := 3) (n := 42) (Nat.le_refl _) (Nat.le_refl _) ?_
  refine lv_dup hx hb dX3_init_22 rfl ?_
  refine lv_bipush (v := 40) hx hb dX3_init_23 (by decide) ?_
  refine lv_iconst (v := (-1)) hx hb dX3_init_25 (by decide) ?_
  refine qtI (As := [.int 40, .int (-1)]) (rest := [.ref a_3, .ref h]) (wr := [(h, .inr (3, [.ref a_1, .null, .int zz, .int po, .int me, .int ml])), (a_1, .inr (1, [.ref (u_2 0)])), ((u_2 0), .inl (z 0, 40, .inl (fFill (fun _ => 0) (-1) 40)))]) ⟨hx, hb, hml, hown, hts⟩ (c_X1_init l D z q a_3 40 (-1) 40 H.size rfl (Nat.le_of_ble_eq_true rfl)) (cwI 2 hts gX3_init_X1_init rfl rfl rfl (hts (.initialized RX1) (List.mem_of_getElem? (i := 6) rfl)) (hts (.methodLink RX3 11 yX1_init) (List.mem_of_getElem? (i := 13) rfl)) (hts (.instanceMethod yX1_init) (List.mem_of_getElem? (i := 14) rfl)) rfl hd_X1_init ⟨Nat.le_of_ble_eq_true rfl, Nat.le_of_ble_eq_true rfl⟩) hE hS hA hP hD [3] [0, 1, 2] rfl rfl rfl rfl (by decide) rfl hl.1 rfl (Nat.le_of_ble_eq_true rfl) dX3_init_26 ⟨(Nat.le_of_ble_eq_true rfl), (Nat.le_of_ble_eq_true rfl)⟩ (fun u_4 H locs _ hP hD hS => ?_)
  have hP : va_P D vwCl [(h, .inr (3, [.ref a_1, .null, .int zz, .int po, .int me, .int ml])), (a_1, .inr (1, [.ref (u_2 0)])), ((u_2 0), .inl (z 0, 40, .inl (fFill (fun _ => 0) (-1) 40))), (a_3, .inr (1, [.ref (u_4 0)])), ((u_4 0), .inl (z 0, 40, .inl (fFill (fun _ => 0) (-1) 40)))] H := hP
  have hD : va_D A [(h, .inr (3, [.ref a_1, .null, .int zz, .int po, .int me, .int ml])), (a_1, .inr (1, [.ref (u_2 0)])), ((u_2 0), .inl (z 0, 40, .inl (fFill (fun _ => 0) (-1) 40))), (a_3, .inr (1, [.ref (u_4 0)])), ((u_4 0), .inl (z 0, 40, .inl (fFill (fun _ => 0) (-1) 40)))] := hD
  refine W.widen (k := 4) (n := 82) (Nat.le_refl _) (Nat.le_refl _) ?_
  refine va_putF (D := D) (ci := 3) (v := .ref a_3) (ty := .object "TypingCoach$Cells") (C := RX3) (T := TX3) (N := 6) hx hb hts in_X3_init_X3 tyX3 tyX3_ok nmX3 hown hK hP hD hS 0 rfl rfl 1 (by decide) (hts (.fieldLink RX3 20 "TypingCoach$Lesson" "typed" "LTypingCoach$Cells;") (List.mem_of_getElem? (i := 8) rfl)) (fun _ h9 => h9) rfl hin rfl (by decide +kernel) rfl rfl (Nat.le_of_ble_eq_true rfl) dX3_init_29 (fun H locs hP hD hS => ?_)
  have hP : va_P D vwCl [(h, .inr (3, [.ref a_1, .ref a_3, .int zz, .int po, .int me, .int ml])), (a_1, .inr (1, [.ref (u_2 0)])), ((u_2 0), .inl (z 0, 40, .inl (fFill (fun _ => 0) (-1) 40))), (a_3, .inr (1, [.ref (u_4 0)])), ((u_4 0), .inl (z 0, 40, .inl (fFill (fun _ => 0) (-1) 40)))] H := hP
  have hD : va_D A [(h, .inr (3, [.ref a_1, .ref a_3, .int zz, .int po, .int me, .int ml])), (a_1, .inr (1, [.ref (u_2 0)])), ((u_2 0), .inl (z 0, 40, .inl (fFill (fun _ => 0) (-1) 40))), (a_3, .inr (1, [.ref (u_4 0)])), ((u_4 0), .inl (z 0, 40, .inl (fFill (fun _ => 0) (-1) 40)))] := hD
  refine lv_aload_n hx hb dX3_init_32 rfl (lv_at hl 0 rfl) ?_
  refine lv_iconst (v := 0) hx hb dX3_init_33 (by decide) ?_
  refine va_put (D := D) (ci := 3) (v := .int 0) (ty := .int) (C := RX3) (T := TX3) (N := 6) hx hb hts in_X3_init_X3 tyX3 tyX3_ok nmX3 hown hK hP hD hS 0 rfl rfl 2 (by decide) (hts (.fieldLink RX3 23 "TypingCoach$Lesson" "size" "I") (List.mem_of_getElem? (i := 9) rfl)) (fun _ h9 => h9) rfl (by decide +kernel) rfl rfl (Nat.le_of_ble_eq_true rfl) dX3_init_34 (fun H locs hP hD hS => ?_)
  have hP : va_P D vwCl [(h, .inr (3, [.ref a_1, .ref a_3, .int 0, .int po, .int me, .int ml])), (a_1, .inr (1, [.ref (u_2 0)])), ((u_2 0), .inl (z 0, 40, .inl (fFill (fun _ => 0) (-1) 40))), (a_3, .inr (1, [.ref (u_4 0)])), ((u_4 0), .inl (z 0, 40, .inl (fFill (fun _ => 0) (-1) 40)))] H := hP
  have hD : va_D A [(h, .inr (3, [.ref a_1, .ref a_3, .int 0, .int po, .int me, .int ml])), (a_1, .inr (1, [.ref (u_2 0)])), ((u_2 0), .inl (z 0, 40, .inl (fFill (fun _ => 0) (-1) 40))), (a_3, .inr (1, [.ref (u_4 0)])), ((u_4 0), .inl (z 0, 40, .inl (fFill (fun _ => 0) (-1) 40)))] := hD
  refine lv_aload_n hx hb dX3_init_37 rfl (lv_at hl 0 rfl) ?_
  refine lv_iconst (v := 0) hx hb dX3_init_38 (by decide) ?_
  refine va_put (D := D) (ci := 3) (v := .int 0) (ty := .int) (C := RX3) (T := TX3) (N := 6) hx hb hts in_X3_init_X3 tyX3 tyX3_ok nmX3 hown hK hP hD hS 0 rfl rfl 3 (by decide) (hts (.fieldLink RX3 27 "TypingCoach$Lesson" "position" "I") (List.mem_of_getElem? (i := 10) rfl)) (fun _ h9 => h9) rfl (by decide +kernel) rfl rfl (Nat.le_of_ble_eq_true rfl) dX3_init_39 (fun H locs hP hD hS => ?_)
  have hP : va_P D vwCl [(h, .inr (3, [.ref a_1, .ref a_3, .int 0, .int 0, .int me, .int ml])), (a_1, .inr (1, [.ref (u_2 0)])), ((u_2 0), .inl (z 0, 40, .inl (fFill (fun _ => 0) (-1) 40))), (a_3, .inr (1, [.ref (u_4 0)])), ((u_4 0), .inl (z 0, 40, .inl (fFill (fun _ => 0) (-1) 40)))] H := hP
  have hD : va_D A [(h, .inr (3, [.ref a_1, .ref a_3, .int 0, .int 0, .int me, .int ml])), (a_1, .inr (1, [.ref (u_2 0)])), ((u_2 0), .inl (z 0, 40, .inl (fFill (fun _ => 0) (-1) 40))), (a_3, .inr (1, [.ref (u_4 0)])), ((u_4 0), .inl (z 0, 40, .inl (fFill (fun _ => 0) (-1) 40)))] := hD
  refine lv_aload_n hx hb dX3_init_42 rfl (lv_at hl 0 rfl) ?_
  refine lv_iconst (v := 0) hx hb dX3_init_43 (by decide) ?_
  refine va_put (D := D) (ci := 3) (v := .int 0) (ty := .int) (C := RX3) (T := TX3) (N := 6) hx hb hts in_X3_init_X3 tyX3 tyX3_ok nmX3 hown hK hP hD hS 0 rfl rfl 4 (by decide) (hts (.fieldLink RX3 30 "TypingCoach$Lesson" "mendedStrokes" "I") (List.mem_of_getElem? (i := 11) rfl)) (fun _ h9 => h9) rfl (by decide +kernel) rfl rfl (Nat.le_of_ble_eq_true rfl) dX3_init_44 (fun H locs hP hD hS => ?_)
  have hP : va_P D vwCl [(h, .inr (3, [.ref a_1, .ref a_3, .int 0, .int 0, .int 0, .int ml])), (a_1, .inr (1, [.ref (u_2 0)])), ((u_2 0), .inl (z 0, 40, .inl (fFill (fun _ => 0) (-1) 40))), (a_3, .inr (1, [.ref (u_4 0)])), ((u_4 0), .inl (z 0, 40, .inl (fFill (fun _ => 0) (-1) 40)))] H := hP
  have hD : va_D A [(h, .inr (3, [.ref a_1, .ref a_3, .int 0, .int 0, .int 0, .int ml])), (a_1, .inr (1, [.ref (u_2 0)])), ((u_2 0), .inl (z 0, 40, .inl (fFill (fun _ => 0) (-1) 40))), (a_3, .inr (1, [.ref (u_4 0)])), ((u_4 0), .inl (z 0, 40, .inl (fFill (fun _ => 0) (-1) 40)))] := hD
  refine lv_aload_n hx hb dX3_init_47 rfl (lv_at hl 0 rfl) ?_
  refine lv_iconst (v := 0) hx hb dX3_init_48 (by decide) ?_
  refine va_put (D := D) (ci := 3) (v := .int 0) (ty := .int) (C := RX3) (T := TX3) (N := 6) hx hb hts in_X3_init_X3 tyX3 tyX3_ok nmX3 hown hK hP hD hS 0 rfl rfl 5 (by decide) (hts (.fieldLink RX3 33 "TypingCoach$Lesson" "millisInAll" "I") (List.mem_of_getElem? (i := 12) rfl)) (fun _ h9 => h9) rfl (by decide +kernel) rfl rfl (Nat.le_of_ble_eq_true rfl) dX3_init_49 (fun H locs hP hD hS => ?_)
  have hP : va_P D vwCl [(h, .inr (3, [.ref a_1, .ref a_3, .int 0, .int 0, .int 0, .int 0])), (a_1, .inr (1, [.ref (u_2 0)])), ((u_2 0), .inl (z 0, 40, .inl (fFill (fun _ => 0) (-1) 40))), (a_3, .inr (1, [.ref (u_4 0)])), ((u_4 0), .inl (z 0, 40, .inl (fFill (fun _ => 0) (-1) 40)))] H := hP
  have hD : va_D A [(h, .inr (3, [.ref a_1, .ref a_3, .int 0, .int 0, .int 0, .int 0])), (a_1, .inr (1, [.ref (u_2 0)])), ((u_2 0), .inl (z 0, 40, .inl (fFill (fun _ => 0) (-1) 40))), (a_3, .inr (1, [.ref (u_4 0)])), ((u_4 0), .inl (z 0, 40, .inl (fFill (fun _ => 0) (-1) 40)))] := hD
  have hP := sub_map (ws' := [(h, .inr (3, [.ref a_1, .ref a_3, .int 0, .int 0, .int 0, .int 0])), (a_1, .inr (1, [.ref (u_2 0)])), ((u_2 0), .inl (z 0, 40, .inl (fFill (fun _ => 0) (-1) 40))), (a_3, .inr (1, [.ref (u_4 0)])), ((u_4 0), .inl (z 0, 40, .inl (fFill (fun _ => 0) (-1) 40)))]) hP [0, 1, 2, 3, 4] rfl
  have hD := hD.sub (ws' := [(h, .inr (3, [.ref a_1, .ref a_3, .int 0, .int 0, .int 0, .int 0])), (a_1, .inr (1, [.ref (u_2 0)])), ((u_2 0), .inl (z 0, 40, .inl (fFill (fun _ => 0) (-1) 40))), (a_3, .inr (1, [.ref (u_4 0)])), ((u_4 0), .inl (z 0, 40, .inl (fFill (fun _ => 0) (-1) 40)))]) [0, 1, 2, 3, 4] (by decide) rfl
  exact qt_v (fun k => ([a_1, (u_2 0), a_3, (u_4 0)] : List Nat).getD k 0) hx hb hr hlocks hP hD hS dX3_init_52 rfl (rfl) trivial (Nat.le_refl _) (Nat.le_refl _)
set_option maxRecDepth 20000 in
theorem in_X5_init_X1 : ∀ w ∈ wsX10, w ∈ wsX5_init := mem_r _ [23] (by decide +kernel)
set_option maxRecDepth 20000 in
theorem in_X5_init_X5 : ∀ w ∈ wsX50, w ∈ wsX5_init := mem_r _ [24, 25] (by decide +kernel)
theorem hd_X5_init : yX5_init.cls ≠ "java/lang/invoke/MethodHandle" ∧ yX5_init.cls ≠ "java/lang/invoke/VarHandle" ∧ (parseMethodDescriptor yX5_init.desc).map (fun d => d.parameters.length) = some 0 := by decide +kernel
set_option maxHeartbeats 4000000 in
set_option maxRecDepth 100000 in
theorem c_X5_init (l : Launch) (D : va_G) (z : Nat → ClassId) (q : Nat → Nat) (h : Nat) (zz : Int32) (sz : Nat)  : Met l yX5_init wsX5_init ({ frames := 2, cells := 2, slots := 101, locals := 62 } : Room) (va_Pc [.ref h] (WP D z q [(h, .inr (5, [.null, .int zz]))] sz)) (QT D (va_A [(h, .inr (5, [.null, .int zz]))] sz) (fun _ => none) (fun _ => True) (fun u : Nat → Nat => [(h, .inr (5, [.ref (u 0), .int 0])), ((u 0), .inr (1, [.ref (u 1)])), ((u 1), .inl (z 0, 100, .inl (fFill (fun _ => 0) 0 100)))])) 2 101 (va_A [(h, .inr (5, [.null, .int zz]))] sz) := by
  refine WR_mk (Qc := fun A => QT D A (fun _ => none) (fun _ => True) (fun u : Nat → Nat => [(h, .inr (5, [.ref (u 0), .int 0])), ((u 0), .inr (1, [.ref (u 1)])), ((u 1), .inl (z 0, 100, .inl (fFill (fun _ => 0) 0 100)))])) (mc := 2) (ms := 101) (cc := cX5_init) (maxL := 1) (ret := none) (by decide) rfl (Nat.le_of_ble_eq_true rfl) ?_
  intro p e s m below meth c A hx hb hr hml hts hown hlocks hin0 H hP hD hE hS hA ls hl
  have hK := hE.1
  have hown : s.vm.findClass RX5 = some m.cls := hown
  have hin : meth.name = "<init>" := hin0 rfl
  have hl : lv_has ls 1 [(0, .ref h)] := hl
  refine lv_aload_n hx hb dX5_init_0 rfl (lv_at hl 0 rfl) ?_
  refine W.objInit hx hb hown (hts (.methodLink RX5 3 objectInit) (List.mem_of_getElem? (i := 1) rfl)) (hts (.instanceMethod objectInit) (List.mem_of_getElem? (i := 2) rfl)) (hts (.code objectInit ⟨#[0xb1]⟩ 1 none) (List.mem_of_getElem? (i := 3) rfl)) rfl (by rw [hml]; exact hl.1) rfl dX5_init_1 (Nat.le_of_ble_eq_true rfl) (Nat.le_of_ble_eq_true rfl) ?_
  refine W.eq (g2 := F0 m 4 ls []) rfl ?_
  refine lv_aload_n hx hb dX5_init_4 rfl (lv_at hl 0 rfl) ?_
  refine va_new (ci := 1) (fs := [.null]) (C := RX1) (T := TX1) (N := 1) hx hb hts in_X5_init_X1 tyX1 tyX1_ok hown (hts (.classLink RX5 9 RX1) (List.mem_of_getElem? (i := 4) rfl)) (hts (.instantiable RX1 1) (List.mem_of_getElem? (i := 5) rfl)) (hts (.initialized RX1) (List.mem_of_getElem? (i := 6) rfl)) hK hP hD hS hA rfl (fun j hj => by rcases (show j = 0 by omega) with rfl <;> rfl) (Nat.le_of_ble_eq_true rfl) (Nat.le_of_ble_eq_true rfl) dX5_init_5 (fun a_1 H hP hD hS => ?_)
  have hP : va_P D vwCl [(h, .inr (5, [.null, .int zz])), (a_1, .inr (1, [.null]))] H := hP
  have hD : va_D A [(h, .inr (5, [.null, .int zz])), (a_1, .inr (1, [.null]))] := hD
  refine W.widen (k := 1) (n := 1) (Nat.le_refl _) (Nat.le_refl _) ?_
  refine lv_dup hx hb dX5_init_8 rfl ?_
  refine lv_bipush (v := 100) hx hb dX5_init_9 (by decide) ?_
  refine lv_iconst (v := 0) hx hb dX5_init_11 (by decide) ?_
  refine qtI (As := [.int 100, .int 0]) (rest := [.ref a_1, .ref h]) (wr := [(h, .inr (5, [.null, .int zz]))]) ⟨hx, hb, hml, hown, hts⟩ (c_X1_init l D z q a_1 100 0 100 H.size rfl (Nat.le_of_ble_eq_true rfl)) (cwI 2 hts gX5_init_X1_init rfl rfl rfl (hts (.initialized RX1) (List.mem_of_getElem? (i := 6) rfl)) (hts (.methodLink RX5 11 yX1_init) (List.mem_of_getElem? (i := 9) rfl)) (hts (.instanceMethod yX1_init) (List.mem_of_getElem? (i := 10) rfl)) rfl hd_X1_init ⟨Nat.le_of_ble_eq_true rfl, Nat.le_of_ble_eq_true rfl⟩) hE hS hA hP hD [1] [0] rfl rfl rfl rfl (by decide) rfl hl.1 rfl (Nat.le_of_ble_eq_true rfl) dX5_init_12 ⟨(Nat.le_of_ble_eq_true rfl), (Nat.le_of_ble_eq_true rfl)⟩ (fun u_2 H locs _ hP hD hS => ?_)
  have hP : va_P D vwCl [(h, .inr (5, [.null, .int zz])), (a_1, .inr (1, [.ref (u_2 0)])), ((u_2 0), .inl (z 0, 100, .inl (fFill (fun _ => 0) 0 100)))] H := hP
  have hD : va_D A [(h, .inr (5, [.null, .int zz])), (a_1, .inr (1, [.ref (u_2 0)])), ((u_2 0), .inl (z 0, 100, .inl (fFill (fun _ => 0) 0 100)))] := hD
  refine W.widen (k := 2) (n := 101) (Nat.le_refl _) (Nat.le_refl _) ?_
  refine va_putF (D := D) (ci := 5) (v := .ref a_1) (ty := .object "TypingCoach$Cells") (C := RX5) (T := TX5) (N := 2) hx hb hts in_X5_init_X5 tyX5 tyX5_ok nmX5 hown hK hP hD hS 0 rfl rfl 0 (by decide) (hts (.fieldLink RX5 14 "TypingCoach$Speeds" "kept" "LTypingCoach$Cells;") (List.mem_of_getElem? (i := 7) rfl)) (fun _ h9 => h9) rfl hin rfl (by decide +kernel) rfl rfl (Nat.le_of_ble_eq_true rfl) dX5_init_15 (fun H locs hP hD hS => ?_)
  have hP : va_P D vwCl [(h, .inr (5, [.ref a_1, .int zz])), (a_1, .inr (1, [.ref (u_2 0)])), ((u_2 0), .inl (z 0, 100, .inl (fFill (fun _ => 0) 0 100)))] H := hP
  have hD : va_D A [(h, .inr (5, [.ref a_1, .int zz])), (a_1, .inr (1, [.ref (u_2 0)])), ((u_2 0), .inl (z 0, 100, .inl (fFill (fun _ => 0) 0 100)))] := hD
  refine lv_aload_n hx hb dX5_init_18 rfl (lv_at hl 0 rfl) ?_
  refine lv_iconst (v := 0) hx hb dX5_init_19 (by decide) ?_
  refine va_put (D := D) (ci := 5) (v := .int 0) (ty := .int) (C := RX5) (T := TX5) (N := 2) hx hb hts in_X5_init_X5 tyX5 tyX5_ok nmX5 hown hK hP hD hS 0 rfl rfl 1 (by decide) (hts (.fieldLink RX5 20 "TypingCoach$Speeds" "size" "I") (List.mem_of_getElem? (i := 8) rfl)) (fun _ h9 => h9) rfl (by decide +kernel) rfl rfl (Nat.le_of_ble_eq_true rfl) dX5_init_20 (fun H locs hP hD hS => ?_)
  have hP : va_P D vwCl [(h, .inr (5, [.ref a_1, .int 0])), (a_1, .inr (1, [.ref (u_2 0)])), ((u_2 0), .inl (z 0, 100, .inl (fFill (fun _ => 0) 0 100)))] H := hP
  have hD : va_D A [(h, .inr (5, [.ref a_1, .int 0])), (a_1, .inr (1, [.ref (u_2 0)])), ((u_2 0), .inl (z 0, 100, .inl (fFill (fun _ => 0) 0 100)))] := hD
  have hP := sub_map (ws' := [(h, .inr (5, [.ref a_1, .int 0])), (a_1, .inr (1, [.ref (u_2 0)])), ((u_2 0), .inl (z 0, 100, .inl (fFill (fun _ => 0) 0 100)))]) hP [0, 1, 2] rfl
  have hD := hD.sub (ws' := [(h, .inr (5, [.ref a_1, .int 0])), (a_1, .inr (1, [.ref (u_2 0)])), ((u_2 0), .inl (z 0, 100, .inl (fFill (fun _ => 0) 0 100)))]) [0, 1, 2] (by decide) rfl
  exact qt_v (fun k => ([a_1, (u_2 0)] : List Nat).getD k 0) hx hb hr hlocks hP hD hS dX5_init_23 rfl (rfl) trivial (Nat.le_refl _) (Nat.le_refl _)
set_option maxRecDepth 20000 in
theorem in_X4_init_X4 : ∀ w ∈ wsX40, w ∈ wsX4_init := mem_r _ [7, 8] (by decide +kernel)
theorem hd_X4_init : yX4_init.cls ≠ "java/lang/invoke/MethodHandle" ∧ yX4_init.cls ≠ "java/lang/invoke/VarHandle" ∧ (parseMethodDescriptor yX4_init.desc).map (fun d => d.parameters.length) = some 1 := by decide +kernel
set_option maxHeartbeats 4000000 in
set_option maxRecDepth 100000 in
theorem c_X4_init (l : Launch) (D : va_G) (z : Nat → ClassId) (q : Nat → Nat) (h : Nat) (g : Nat) (sz : Nat)  : Met l yX4_init wsX4_init ({ frames := 1, cells := 1, slots := 26, locals := 30 } : Room) (va_Pc [.ref h, .ref g] (WP D z q [(h, .inr (4, [.null, .null]))] sz)) (QT D (va_A [(h, .inr (4, [.null, .null]))] sz) (fun _ => none) (fun _ => True) (fun u : Nat → Nat => [(h, .inr (4, [.ref (u 0), .ref g])), ((u 0), .inl (z 1, 26, .inl (lIni 26)))])) 1 26 (va_A [(h, .inr (4, [.null, .null]))] sz) := by
  refine WR_mk (Qc := fun A => QT D A (fun _ => none) (fun _ => True) (fun u : Nat → Nat => [(h, .inr (4, [.ref (u 0), .ref g])), ((u 0), .inl (z 1, 26, .inl (lIni 26)))])) (mc := 1) (ms := 26) (cc := cX4_init) (maxL := 3) (ret := none) (by decide) rfl (Nat.le_of_ble_eq_true rfl) ?_
  intro p e s m below meth c A hx hb hr hml hts hown hlocks hin0 H hP hD hE hS hA ls hl
  have hK := hE.1
  have hown : s.vm.findClass RX4 = some m.cls := hown
  have hin : meth.name = "<init>" := hin0 rfl
  have hl : lv_has ls 3 [(0, .ref h), (1, .ref g)] := hl
  refine lv_aload_n hx hb dX4_init_0 rfl (lv_at hl 0 rfl) ?_
  refine W.objInit hx hb hown (hts (.methodLink RX4 3 objectInit) (List.mem_of_getElem? (i := 1) rfl)) (hts (.instanceMethod objectInit) (List.mem_of_getElem? (i := 2) rfl)) (hts (.code objectInit ⟨#[0xb1]⟩ 1 none) (List.mem_of_getElem? (i := 3) rfl)) rfl (by rw [hml]; exact hl.1) rfl dX4_init_1 (Nat.le_of_ble_eq_true rfl) (Nat.le_of_ble_eq_true rfl) ?_
  refine W.eq (g2 := F0 m 4 ls []) rfl ?_
  refine lv_aload_n hx hb dX4_init_4 rfl (lv_at hl 0 rfl) ?_
  refine lv_bipush (v := 26) hx hb dX4_init_5 (by decide) ?_
  refine newZ (N' := 26) hx hb (hts (.arrayClass .boolean) (List.mem_of_getElem? (i := 4) rfl)) hK hP hD hS hA (by decide) rfl (Nat.le_of_ble_eq_true rfl) (Nat.le_of_ble_eq_true rfl) (Nat.le_of_ble_eq_true rfl) dX4_init_7 (fun a_1 H hP hD hS => ?_)
  have hP : va_P D vwCl [(h, .inr (4, [.null, .null])), (a_1, .inl (z 1, 26, .inl (fun _ => 0)))] H := hP
  have hD : va_D A [(h, .inr (4, [.null, .null])), (a_1, .inl (z 1, 26, .inl (fun _ => 0)))] := hD
  refine W.widen (k := 1) (n := 26) (Nat.le_refl _) (Nat.le_refl _) ?_
  refine va_putF (D := D) (ci := 4) (v := .ref a_1) (ty := .array .boolean) (C := RX4) (T := TX4) (N := 2) hx hb hts in_X4_init_X4 tyX4 tyX4_ok nmX4 hown hK hP hD hS 0 rfl rfl 0 (by decide) (hts (.fieldLink RX4 9 "TypingCoach$LettersIn" "in" "[Z") (List.mem_of_getElem? (i := 5) rfl)) (fun _ h9 => h9) rfl hin rfl (by decide +kernel) rfl rfl (Nat.le_of_ble_eq_true rfl) dX4_init_9 (fun H locs hP hD hS => ?_)
  have hP : va_P D vwCl [(h, .inr (4, [.ref a_1, .null])), (a_1, .inl (z 1, 26, .inl (fun _ => 0)))] H := hP
  have hD : va_D A [(h, .inr (4, [.ref a_1, .null])), (a_1, .inl (z 1, 26, .inl (fun _ => 0)))] := hD
  refine lv_aload_n hx hb dX4_init_12 rfl (lv_at hl 0 rfl) ?_
  refine lv_aload_n hx hb dX4_init_13 rfl (lv_at hl 1 rfl) ?_
  refine va_putF (D := D) (ci := 4) (v := .ref g) (ty := .object "TypingCoach$Figures") (C := RX4) (T := TX4) (N := 2) hx hb hts in_X4_init_X4 tyX4 tyX4_ok nmX4 hown hK hP hD hS 0 rfl rfl 1 (by decide) (hts (.fieldLink RX4 15 "TypingCoach$LettersIn" "figures" "LTypingCoach$Figures;") (List.mem_of_getElem? (i := 6) rfl)) (fun _ h9 => h9) rfl hin rfl (by decide +kernel) rfl rfl (Nat.le_of_ble_eq_true rfl) dX4_init_14 (fun H locs hP hD hS => ?_)
  have hP : va_P D vwCl [(h, .inr (4, [.ref a_1, .ref g])), (a_1, .inl (z 1, 26, .inl (fun _ => 0)))] H := hP
  have hD : va_D A [(h, .inr (4, [.ref a_1, .ref g])), (a_1, .inl (z 1, 26, .inl (fun _ => 0)))] := hD
  refine lv_iconst (v := 0) hx hb dX4_init_17 (by decide) ?_
  refine lv_istore_n (lv' := [(2, .int 0), (0, .ref h), (1, .ref g)]) hx hb dX4_init_18 rfl hl (by decide) rfl (fun ls hl => ?_)
  have loop_2 : ∀ (n : Nat) (j : Nat), j ≤ 26 → 26 < j + n → ∀ (H : Heap) (locs : List Loc), va_P D vwCl [(h, .inr (4, [.ref a_1, .ref g])), (a_1, .inl (z 1, 26, .inl (lIni j)))] H → va_D A [(h, .inr (4, [.ref a_1, .ref g])), (a_1, .inl (z 1, 26, .inl (lIni j)))] → va_S A s.heap H locs → ∀ ls : Array Slot, lv_has ls 3 [(2, .int (nI j)), (0, .ref h), (1, .ref g)] → W p l e ({ frames := 1, cells := 1, slots := 26, locals := 30 } : Room) s m ([.ref h, .ref g] : List Value).toArray below meth c H locs 1 26 (MQ below (QT D A (fun _ => none) (fun _ => True) (fun u : Nat → Nat => [(h, .inr (4, [.ref (u 0), .ref g])), ((u 0), .inl (z 1, 26, .inl (lIni 26)))])) ([.ref h, .ref g] : List Value).toArray s 1 26 A) (F0 m 19 ls []) := by
    intro n
    induction n with
    | zero => intro j hj hf; exact absurd hf (by omega)
    | succ n ih =>
      intro j hj hf H locs hP hD hS ls hl
      refine lv_iload_n hx hb dX4_init_19 rfl (lv_at hl 0 rfl) ?_
      refine lv_aload_n hx hb dX4_init_20 rfl (lv_at hl 1 rfl) ?_
      refine va_get (D := D) (ci := 4) (v := .ref a_1) (C := RX4) (T := TX4) (N := 2) hx hb hts in_X4_init_X4 hown hK hP 0 rfl rfl 0 (by decide) (hts (.fieldLink RX4 9 "TypingCoach$LettersIn" "in" "[Z") (List.mem_of_getElem? (i := 5) rfl)) (fun _ h9 => h9) rfl dX4_init_21 ?_
      refine va_alen (v := 26) hx hb hK hP 1 1 rfl rfl rfl dX4_init_24 ?_
      refine lv_icmp_ge (tgt := 50) hx hb dX4_init_25 (by decide) (fun c_3 => ?_) (fun c_3 => ?_)
      · have hj2 : j = 26 := lpx c_3 hj (Nat.le_of_ble_eq_true rfl) rfl
        have hP := sub_map (ws' := [(h, .inr (4, [.ref a_1, .ref g])), (a_1, .inl (z 1, 26, .inl (lIni j)))]) hP [0, 1] rfl
        have hD := hD.sub (ws' := [(h, .inr (4, [.ref a_1, .ref g])), (a_1, .inl (z 1, 26, .inl (lIni j)))]) [0, 1] (by decide) rfl
        exact qt_v (fun k => ([a_1] : List Nat).getD k 0) hx hb hr hlocks hP hD hS dX4_init_50 rfl (by rw [hj2]; rfl) trivial (Nat.le_refl _) (Nat.le_refl _)
      · have hjl : j < 26 := lpn c_3 hj (Nat.le_of_ble_eq_true rfl) rfl
        refine lv_aload_n hx hb dX4_init_28 rfl (lv_at hl 1 rfl) ?_
        refine va_get (D := D) (ci := 4) (v := .ref a_1) (C := RX4) (T := TX4) (N := 2) hx hb hts in_X4_init_X4 hown hK hP 0 rfl rfl 0 (by decide) (hts (.fieldLink RX4 9 "TypingCoach$LettersIn" "in" "[Z") (List.mem_of_getElem? (i := 5) rfl)) (fun _ h9 => h9) rfl dX4_init_29 ?_
        refine lv_iload_n hx hb dX4_init_32 rfl (lv_at hl 0 rfl) ?_
        refine lv_iload_n hx hb dX4_init_33 rfl (lv_at hl 0 rfl) ?_
        refine lv_iconst (v := 4) hx hb dX4_init_34 (by decide) ?_
        refine lv_icmp_ge (tgt := 42) hx hb dX4_init_35 (by decide) (fun c_4 => ?_) (fun c_4 => ?_)
        · refine lv_iconst (v := 0) hx hb dX4_init_42 (by decide) ?_
          refine va_zast hx hb hK hP hD hS 1 1 rfl rfl (vp_in_nI hjl (Nat.le_of_ble_eq_true rfl)) dX4_init_43 (fun H locs hP hD hS => ?_)
          have hP : va_P D vwCl [(h, .inr (4, [.ref a_1, .ref g])), (a_1, .inl (z 1, 26, .inl (upd (lIni j) (nI j).toNatClampNeg (vp_nar .boolean 0))))] H := hP
          have hD : va_D A [(h, .inr (4, [.ref a_1, .ref g])), (a_1, .inl (z 1, 26, .inl (upd (lIni j) (nI j).toNatClampNeg (vp_nar .boolean 0))))] := hD
          refine lv_iinc (v := nI (j + 1)) (lv' := [(2, .int (nI (j + 1))), (0, .ref h), (1, .ref g)]) hx hb dX4_init_44 hl (k := 0) rfl (nI_1 j) (by decide) rfl (fun ls hl => ?_)
          refine lv_goto (tgt := 19) hx hb dX4_init_47 (by decide) ?_
          rw [nI_clamp (i26 hjl), nz0, lIni_f (lpx4 c_4 hjl)] at hP hD
          exact ih (j + 1) (by omega) (by omega) _ _ hP hD hS ls (lv_sub hl [0, 1, 2] rfl)
        · refine lv_iconst (v := 1) hx hb dX4_init_38 (by decide) ?_
          refine lv_goto (tgt := 43) hx hb dX4_init_39 (by decide) ?_
          refine va_zast hx hb hK hP hD hS 1 1 rfl rfl (vp_in_nI hjl (Nat.le_of_ble_eq_true rfl)) dX4_init_43 (fun H locs hP hD hS => ?_)
          have hP : va_P D vwCl [(h, .inr (4, [.ref a_1, .ref g])), (a_1, .inl (z 1, 26, .inl (upd (lIni j) (nI j).toNatClampNeg (vp_nar .boolean 1))))] H := hP
          have hD : va_D A [(h, .inr (4, [.ref a_1, .ref g])), (a_1, .inl (z 1, 26, .inl (upd (lIni j) (nI j).toNatClampNeg (vp_nar .boolean 1))))] := hD
          refine lv_iinc (v := nI (j + 1)) (lv' := [(2, .int (nI (j + 1))), (0, .ref h), (1, .ref g)]) hx hb dX4_init_44 hl (k := 0) rfl (nI_1 j) (by decide) rfl (fun ls hl => ?_)
          refine lv_goto (tgt := 19) hx hb dX4_init_47 (by decide) ?_
          rw [nI_clamp (i26 hjl), nz1, lIni_t (lpn4 c_4 hjl)] at hP hD
          exact ih (j + 1) (by omega) (by omega) _ _ hP hD hS ls (lv_sub hl [0, 1, 2] rfl)
  exact loop_2 27 0 (by omega) (by omega) _ _ (by rw [lIni_0]; exact hP) (by rw [lIni_0]; exact hD) hS ls (lv_sub hl [0, 1, 2] rfl)
