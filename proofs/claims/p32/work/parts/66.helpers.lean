/-! ===== low, cell, wish, wantedAt, speedOf, does ===== -/
theorem hd_L_low : yL_low.cls ≠ "java/lang/invoke/MethodHandle" ∧ yL_low.cls ≠ "java/lang/invoke/VarHandle" ∧ (parseMethodDescriptor yL_low.desc).map (fun d => d.parameters.length) = some 2 := by decide +kernel
set_option maxHeartbeats 4000000 in
set_option maxRecDepth 100000 in
theorem c_L_low (l : Launch) (D : va_G) (z : Nat → ClassId) (q : Nat → Nat) (v : Int32) (n : Int32) (hn : ¬ n = 0) : RD l yL_low wsL_low ({ frames := 0, cells := 0, slots := 0, locals := 0 } : Room) D z q [.int v, .int n] [] (some (.int (lLow v n))) := by
  refine RD_mk (cc := cL_low) (maxL := 2) (ret := (some .int)) (by decide) rfl (Nat.le_of_ble_eq_true rfl) ?_
  intro p e s m below meth c hx hb hr hml hts hown hlocks hP hE hS hA ls hl
  have hK := hE.1
  have hown : s.vm.findClass RL = some m.cls := hown
  have hl : lv_has ls 2 [(0, .int v), (1, .int n)] := hl
  refine lv_iload_n hx hb dL_low_0 rfl (lv_at hl 0 rfl) ?_
  refine lv_ldc (v := 2147483647) hx hb hown (hts (.constant RL 7 2147483647) (List.mem_of_getElem? (i := 1) rfl)) dL_low_1 ?_
  refine lv_iand hx hb dL_low_3 ?_
  refine lv_iload_n hx hb dL_low_4 rfl (lv_at hl 1 rfl) ?_
  refine lv_irem hx hb dL_low_5 hn ?_
  exact rd_i hx hb hr hlocks dL_low_6 (rfl)
def lCell (L : Nat) (xs : Nat → Int32) (j : Nat) : Int32 := if Int32.ofNat L ≤ nI j then 7919 * (nI j + 619) * (nI j + 2963) else xs j
theorem hd_L_cell : yL_cell.cls ≠ "java/lang/invoke/MethodHandle" ∧ yL_cell.cls ≠ "java/lang/invoke/VarHandle" ∧ (parseMethodDescriptor yL_cell.desc).map (fun d => d.parameters.length) = some 2 := by decide +kernel
set_option maxHeartbeats 4000000 in
set_option maxRecDepth 100000 in
theorem c_L_cell (l : Launch) (b L : Nat) (xs : Nat → Int32) (j : Nat) (hj : j < 2 ^ 31) (hL : L < 2 ^ 31) : Met l yL_cell wsL_cell ({ frames := 0, cells := 0, slots := 0, locals := 0 } : Room) (va_Pc [.ref b, .int (nI j)] (fun U => va_X b L xs U U.heap ∧ b < U.heap.size)) (QR (some (.int (lCell L xs j)))) 0 0 (fun _ => False) := by
  refine Met.ofW (cc := cL_cell) (maxL := 2) (ret := (some .int)) (by decide) rfl ?_
  intro p e s m args below meth c s₁ B hml hv
  obtain ⟨rfl, hX, hbl⟩ := hv
  rw [lg_entry_eq]
  have hx := B.exec
  have hb := B.bytes
  have hr := B.returns
  have hlocks := B.notSynchronized
  have hbA : ¬ (fun x : Nat => s.heap.size ≤ x) b := Nat.not_le_of_lt hbl
  have hS : va_S (fun x : Nat => s.heap.size ≤ x) s.heap s.heap [] := va_S.rf
  have key : ∀ ls : Array Slot, lv_has ls 2 [(0, .ref b), (1, .int (nI j))] → W p l e ({ frames := 0, cells := 0, slots := 0, locals := 0 } : Room) s m ([.ref b, .int (nI j)] : List Value).toArray below meth c s.heap [] 0 0 (MQ below (QR (some (.int (lCell L xs j)))) ([.ref b, .int (nI j)] : List Value).toArray s 0 0 (fun _ => False)) (F0 m 0 ls []) := by
    intro ls hl
    refine lv_iload_n hx hb dL_cell_0 rfl (lv_at hl 1 rfl) ?_
    refine lv_aload_n hx hb dL_cell_1 rfl (lv_at hl 0 rfl) ?_
    refine va_slen hx hb hX hbl hbA hS dL_cell_2 ?_
    refine lv_icmp_ge (tgt := 12) hx hb dL_cell_3 (by decide) (fun hc => ?_) (fun hc => ?_)
    · refine lv_sipush (v := 7919) hx hb dL_cell_12 (by decide) ?_
      refine lv_iload_n hx hb dL_cell_15 rfl (lv_at hl 1 rfl) ?_
      refine lv_sipush (v := 619) hx hb dL_cell_16 (by decide) ?_
      refine lv_iadd hx hb dL_cell_19 ?_
      refine lv_imul hx hb dL_cell_20 ?_
      refine lv_iload_n hx hb dL_cell_21 rfl (lv_at hl 1 rfl) ?_
      refine lv_sipush (v := 2963) hx hb dL_cell_22 (by decide) ?_
      refine lv_iadd hx hb dL_cell_25 ?_
      refine lv_imul hx hb dL_cell_26 ?_
      exact rd_i hx hb hr hlocks dL_cell_27 (by rw [lCell, if_pos hc])
    · refine lv_aload_n hx hb dL_cell_6 rfl (lv_at hl 0 rfl) ?_
      refine lv_iload_n hx hb dL_cell_7 rfl (lv_at hl 1 rfl) ?_
      have hjl : j < L := Decidable.byContradiction fun h9 => hc ((nI_leI hL hj).mpr (by omega))
      refine mSld (v := xs j) hx hb hX hbl hbA hS (vp_in_nI hjl hL) (by rw [nI_clamp hj]) dL_cell_8 ?_
      refine lv_goto (tgt := 27) hx hb dL_cell_9 (by decide) ?_
      exact rd_i hx hb hr hlocks dL_cell_27 (by rw [lCell, if_neg hc])
  exact key _ (lv_entry [.ref b, .int (nI j)] (Nat.le_of_ble_eq_true rfl))
section CELL
variable {p : Program} {l : Launch} {e : Env} {R : Room} {s : State} {m : MethodId} {args : Array Value} {below : List Frame} {meth : Method} {c : Code} {H : Heap} {locs : List Loc} {cells slots : Nat} {Q : State → Prop}
variable {A : Nat → Prop} {cc : ByteArray} {pc nL index : Nat} {ls : Array Slot} {Ts : List Cond} {own : String} {rest : List Value} {b L j : Nat} {xs : Nat → Int32}
theorem cellS (S : CallFix p m c cc nL s args Ts own) (cw : CallB R s args own index yL_cell cL_cell 2 (some .int) wsL_cell ({ frames := 0, cells := 0, slots := 0, locals := 0 } : Room) 0 0 2 ∧ (Cond.static yL_cell).before args s = true)
    (hX : va_X b L xs s s.heap) (hbl : b < s.heap.size) (hbA : ¬ A b) (hS : va_S A s.heap H locs) (hj : j < 2 ^ 31) (hL : L < 2 ^ 31) (hsz : ls.size = nL) (hW : (rest.map fun v => v.category).sum ≤ 8) (hdg : decode cc pc = .ok (.invokestatic index, 3)) (hf : cells + 0 ≤ R.cells ∧ slots + 0 ≤ R.slots)
    (kk : W p l e R s m args below meth c H locs cells slots Q (F0 m (pc + 3) ls (.int (lCell L xs j) :: rest))) : W p l e R s m args below meth c H locs cells slots Q (F0 m pc ls (.int (nI j) :: .ref b :: rest)) := by
  refine rd_call (W.runS (As := [.ref b, .int (nI j)]) S (c_L_cell l b L xs j hj hL) cw ⟨fun a U g mk h => ⟨h.1, va_X.moved (u := U) (U := U.calling g mk a) (State.WarmedH.refl U).alike h.2.1, h.2.2⟩, fun U hU hW9 => ⟨rfl, ?_⟩⟩ rfl rfl hsz rfl (lv_room hW) hdg hf) kk
  subst hU
  exact ⟨va_X.moved hW9.alike (hX.kept (hS.2.1 b hbl hbA)), Nat.lt_of_lt_of_le hbl hS.1⟩
end CELL
theorem hd_L_wish : yL_wish.cls ≠ "java/lang/invoke/MethodHandle" ∧ yL_wish.cls ≠ "java/lang/invoke/VarHandle" ∧ (parseMethodDescriptor yL_wish.desc).map (fun d => d.parameters.length) = some 3 := by decide +kernel
set_option maxHeartbeats 4000000 in
set_option maxRecDepth 100000 in
theorem c_L_wish (l : Launch) (D : va_G) (z : Nat → ClassId) (q : Nat → Nat) (xo : Nat) (xb : Nat) (xg : Nat) (xn : Nat) (xt : Nat) (xp : Nat) (xk : Nat) (xf : Nat) (dy : Int32) (g1 : Nat) (y1 : Nat) (g2 : Nat) (y2 : Nat) (g3 : Nat) (y3 : Nat) (g4 : Nat) (y4 : Nat) (ct : Nat → Int32) (ti : Nat → Int32) (sh : Nat → Int32) (pr : Nat → Int32) (wt : Int32) (wh : Int32) (mo : Int32) (sa : Int32) (sz : Nat) (hlt : l.stackTraces = false) : TX l yL_wish wsL_wish ({ frames := 7, cells := 3, slots := 18, locals := 142 } : Room) D z q [.ref xo, .int mo, .int sa] [(xo, .inr (6, [.ref xb, .ref xg, .ref xn, .ref xt, .ref xp, .ref xk, .ref xf, .int dy])), (xg, .inr (2, [.ref g1, .ref g2, .ref g3, .ref g4, .int wt, .int wh])), (g1, .inr (1, [.ref y1])), (y1, .inl (z 0, 26, .inl ct)), (g2, .inr (1, [.ref y2])), (y2, .inl (z 0, 26, .inl ti)), (g3, .inr (1, [.ref y3])), (y3, .inl (z 0, 26, .inl sh)), (g4, .inr (1, [.ref y4])), (y4, .inl (z 0, 676, .inl pr))] sz [(xo, .inr (6, [.ref xb, .ref xg, .ref xn, .ref xt, .ref xp, .ref xk, .ref xf, .int dy])), (xg, .inr (2, [.ref g1, .ref g2, .ref g3, .ref g4, .int mo, .int sa])), (g1, .inr (1, [.ref y1])), (y1, .inl (z 0, 26, .inl ct)), (g2, .inr (1, [.ref y2])), (y2, .inl (z 0, 26, .inl ti)), (g3, .inr (1, [.ref y3])), (y3, .inl (z 0, 26, .inl sh)), (g4, .inr (1, [.ref y4])), (y4, .inl (z 0, 676, .inl pr))] (some (.int 0)) (¬ bW mo 1 5000 = 0 ∧ ¬ bW sa 0 10000 = 0) (fun E => (bW mo 1 5000 = 0 ∧ E = xA) ∨ (¬ bW mo 1 5000 = 0 ∧ bW sa 0 10000 = 0 ∧ E = xA)) := by
  refine TX_mk (Qc := fun A a st o t => (¬ bW mo 1 5000 = 0 ∧ ¬ bW sa 0 10000 = 0) ∧ QW D [(xo, .inr (6, [.ref xb, .ref xg, .ref xn, .ref xt, .ref xp, .ref xk, .ref xf, .int dy])), (xg, .inr (2, [.ref g1, .ref g2, .ref g3, .ref g4, .int mo, .int sa])), (g1, .inr (1, [.ref y1])), (y1, .inl (z 0, 26, .inl ct)), (g2, .inr (1, [.ref y2])), (y2, .inl (z 0, 26, .inl ti)), (g3, .inr (1, [.ref y3])), (y3, .inl (z 0, 26, .inl sh)), (g4, .inr (1, [.ref y4])), (y4, .inl (z 0, 676, .inl pr))] A (some (.int 0)) a st o t) (XC := XK (fun E => (bW mo 1 5000 = 0 ∧ E = xA) ∨ (¬ bW mo 1 5000 = 0 ∧ bW sa 0 10000 = 0 ∧ E = xA))) (mc := 3) (ms := 18) (cc := cL_wish) (maxL := 3) (ret := (some .int)) (by decide) rfl (Nat.le_of_ble_eq_true rfl) ?_
  intro p e s m below meth c A hx hb hr hml hts hown hlocks hout H hH0 hP hD hE hS hA ls hl
  have hK := hE.1
  have hown : s.vm.findClass RL = some m.cls := hown
  have hl : lv_has ls 3 [(0, .ref xo), (1, .int mo), (2, .int sa)] := hl
  refine lv_aload_n hx hb dL_wish_0 rfl (lv_at hl 0 rfl) ?_
  refine lv_iload_n hx hb dL_wish_1 rfl (lv_at hl 1 rfl) ?_
  refine lv_iload_n hx hb dL_wish_2 rfl (lv_at hl 2 rfl) ?_
  refine txP (As := [.int mo, .int sa]) (rest := []) (mc := 3) (ms := 18) ⟨hx, hb, hml, hown, hts⟩ (c_X6_wish l D z q xo xb xg xn xt xp xk xf dy g1 y1 g2 y2 g3 y3 g4 y4 ct ti sh pr wt wh mo sa H.size hlt) (cwV 2 hts gL_wish_X6_wish rfl rfl rfl hd_X6_wish ⟨Nat.le_of_ble_eq_true rfl, Nat.le_of_ble_eq_true rfl⟩) hE hS hA hP hD [0, 1, 2, 3, 4, 5, 6, 7, 8, 9] rfl rfl rfl rfl rfl rfl hH0 hout hlocks rfl hl.1 rfl (Nat.le_of_ble_eq_true rfl) dL_wish_3 ⟨Nat.le_of_ble_eq_true rfl, Nat.le_of_ble_eq_true rfl⟩ (fun E h => h) (Nat.le_of_ble_eq_true rfl) (Nat.le_of_ble_eq_true rfl) (fun hok H locs hP hD hS => ?_)
  have hP : va_P D vwCl [(xo, .inr (6, [.ref xb, .ref xg, .ref xn, .ref xt, .ref xp, .ref xk, .ref xf, .int dy])), (xg, .inr (2, [.ref g1, .ref g2, .ref g3, .ref g4, .int mo, .int sa])), (g1, .inr (1, [.ref y1])), (y1, .inl (z 0, 26, .inl ct)), (g2, .inr (1, [.ref y2])), (y2, .inl (z 0, 26, .inl ti)), (g3, .inr (1, [.ref y3])), (y3, .inl (z 0, 26, .inl sh)), (g4, .inr (1, [.ref y4])), (y4, .inl (z 0, 676, .inl pr))] H := hP
  have hD : va_D A [(xo, .inr (6, [.ref xb, .ref xg, .ref xn, .ref xt, .ref xp, .ref xk, .ref xf, .int dy])), (xg, .inr (2, [.ref g1, .ref g2, .ref g3, .ref g4, .int mo, .int sa])), (g1, .inr (1, [.ref y1])), (y1, .inl (z 0, 26, .inl ct)), (g2, .inr (1, [.ref y2])), (y2, .inl (z 0, 26, .inl ti)), (g3, .inr (1, [.ref y3])), (y3, .inl (z 0, 26, .inl sh)), (g4, .inr (1, [.ref y4])), (y4, .inl (z 0, 676, .inl pr))] := hD
  refine lv_iconst (v := 0) hx hb dL_wish_6 (by decide) ?_
  exact tx_i hx hb hr hlocks hP hD hS dL_wish_7 hok (rfl) (rfl) (Nat.le_of_ble_eq_true rfl) (Nat.le_of_ble_eq_true rfl)
theorem hd_L_wantedAt : yL_wantedAt.cls ≠ "java/lang/invoke/MethodHandle" ∧ yL_wantedAt.cls ≠ "java/lang/invoke/VarHandle" ∧ (parseMethodDescriptor yL_wantedAt.desc).map (fun d => d.parameters.length) = some 2 := by decide +kernel
set_option maxHeartbeats 4000000 in
set_option maxRecDepth 100000 in
theorem c_L_wantedAt_0 (l : Launch) (D : va_G) (z : Nat → ClassId) (q : Nat → Nat) (xo : Nat) (xb : Nat) (xg : Nat) (xn : Nat) (xt : Nat) (xp : Nat) (xk : Nat) (xf : Nat) (dy : Int32) (t1 : Nat) (r1 : Nat) (t2 : Nat) (r2 : Nat) (lt : Nat → Int32) (ty : Nat → Int32) (zz : Int32) (po : Int32) (me : Int32) (ml : Int32) (i : Int32) (sz : Nat) (e0 : bW i 0 (zz - 1) = 0) (hlt : l.stackTraces = false) : HW l yL_wantedAt wsL_wantedAt ({ frames := 7, cells := 3, slots := 18, locals := 141 } : Room) D z q [.ref xo, .int i] [(xo, .inr (6, [.ref xb, .ref xg, .ref xn, .ref xt, .ref xp, .ref xk, .ref xf, .int dy])), (xt, .inr (3, [.ref t1, .ref t2, .int zz, .int po, .int me, .int ml])), (t1, .inr (1, [.ref r1])), (r1, .inl (z 0, 40, .inl lt)), (t2, .inr (1, [.ref r2])), (r2, .inl (z 0, 40, .inl ty))] sz [(xo, .inr (6, [.ref xb, .ref xg, .ref xn, .ref xt, .ref xp, .ref xk, .ref xf, .int dy])), (xt, .inr (3, [.ref t1, .ref t2, .int zz, .int po, .int me, .int ml])), (t1, .inr (1, [.ref r1])), (r1, .inl (z 0, 40, .inl lt)), (t2, .inr (1, [.ref r2])), (r2, .inl (z 0, 40, .inl ty))] (some (.int (-99999))) := by
  refine HW_mk (hh := [(0, 5, 6, 38)]) (cc := cL_wantedAt) (maxL := 3) (ret := (some .int)) (by decide) rfl (Nat.le_of_ble_eq_true rfl) ?_
  intro p e s m below meth c A hx hb hr hml hts hown hlocks htab H hP hD hE hS hA ls hl
  have hK := hE.1
  have hown : s.vm.findClass RL = some m.cls := hown
  have hl : lv_has ls 3 [(0, .ref xo), (1, .int i)] := hl
  refine lv_aload_n hx hb dL_wantedAt_0 rfl (lv_at hl 0 rfl) ?_
  refine lv_iload_n hx hb dL_wantedAt_1 rfl (lv_at hl 1 rfl) ?_
  refine txV (As := [.int i]) (rest := []) ⟨hx, hb, hml, hown, hts⟩ (c_X6_wantedAt l D z q xo xb xg xn xt xp xk xf dy t1 r1 t2 r2 lt ty zz po me ml i H.size hlt) (cwV 1 hts gL_wantedAt_X6_wantedAt rfl rfl rfl hd_X6_wantedAt ⟨Nat.le_of_ble_eq_true rfl, Nat.le_of_ble_eq_true rfl⟩) hE hS hA hP hD [0, 1, 2, 3, 4, 5] rfl rfl rfl rfl rfl rfl rfl hl.1 rfl (Nat.le_of_ble_eq_true rfl) dL_wantedAt_2 ⟨Nat.le_of_ble_eq_true rfl, Nat.le_of_ble_eq_true rfl⟩ (fun E ce q9 H1 locs1 hbd hP hD hS hce hcv hcl => ?_) (fun hok _ _ _ _ _ => (hok e0).elim)
  have hE9 : E = xI := hbd.2
  subst hE9
  refine vx_catch (own := RL) (name := xI) hown [] ⟨0, 5, 6, 38⟩ [] (by rw [htab]; rfl) (fun z hz => nomatch hz) rfl (by decide) (hts (.classLink RL 38 "java/lang/IndexOutOfBoundsException") (List.mem_of_getElem? (i := 1) rfl)) (va_Nw.use rfl (hE.2.2.2.2.2.1 xI xIm)) hce hcv hcl ?_
  refine lv_astore_n (lv' := [(2, .ref q9), (0, .ref xo), (1, .int i)]) hx hb dL_wantedAt_6 rfl hl (by decide) rfl (fun ls hl => ?_)
  refine lv_ldc (v := (-99999)) hx hb hown (hts (.constant RL 40 (-99999)) (List.mem_of_getElem? (i := 2) rfl)) dL_wantedAt_7 ?_
  exact hw_i hx hb hr hlocks hP hD hS dL_wantedAt_9 (rfl) rfl (Nat.le_of_ble_eq_true rfl) (Nat.le_of_ble_eq_true rfl)
set_option maxHeartbeats 4000000 in
set_option maxRecDepth 100000 in
theorem c_L_wantedAt_1 (l : Launch) (D : va_G) (z : Nat → ClassId) (q : Nat → Nat) (xo : Nat) (xb : Nat) (xg : Nat) (xn : Nat) (xt : Nat) (xp : Nat) (xk : Nat) (xf : Nat) (dy : Int32) (t1 : Nat) (r1 : Nat) (t2 : Nat) (r2 : Nat) (lt : Nat → Int32) (ty : Nat → Int32) (zz : Int32) (po : Int32) (me : Int32) (ml : Int32) (i : Int32) (sz : Nat) (e0 : ¬ bW i 0 (zz - 1) = 0) (hlt : l.stackTraces = false) : HW l yL_wantedAt wsL_wantedAt ({ frames := 7, cells := 3, slots := 18, locals := 141 } : Room) D z q [.ref xo, .int i] [(xo, .inr (6, [.ref xb, .ref xg, .ref xn, .ref xt, .ref xp, .ref xk, .ref xf, .int dy])), (xt, .inr (3, [.ref t1, .ref t2, .int zz, .int po, .int me, .int ml])), (t1, .inr (1, [.ref r1])), (r1, .inl (z 0, 40, .inl lt)), (t2, .inr (1, [.ref r2])), (r2, .inl (z 0, 40, .inl ty))] sz [(xo, .inr (6, [.ref xb, .ref xg, .ref xn, .ref xt, .ref xp, .ref xk, .ref xf, .int dy])), (xt, .inr (3, [.ref t1, .ref t2, .int zz, .int po, .int me, .int ml])), (t1, .inr (1, [.ref r1])), (r1, .inl (z 0, 40, .inl lt)), (t2, .inr (1, [.ref r2])), (r2, .inl (z 0, 40, .inl ty))] (some (.int (tAt lt zz i))) := by
  refine HW_mk (hh := [(0, 5, 6, 38)]) (cc := cL_wantedAt) (maxL := 3) (ret := (some .int)) (by decide) rfl (Nat.le_of_ble_eq_true rfl) ?_
  intro p e s m below meth c A hx hb hr hml hts hown hlocks htab H hP hD hE hS hA ls hl
  have hK := hE.1
  have hown : s.vm.findClass RL = some m.cls := hown
  have hl : lv_has ls 3 [(0, .ref xo), (1, .int i)] := hl
  refine lv_aload_n hx hb dL_wantedAt_0 rfl (lv_at hl 0 rfl) ?_
  refine lv_iload_n hx hb dL_wantedAt_1 rfl (lv_at hl 1 rfl) ?_
  refine txV (As := [.int i]) (rest := []) ⟨hx, hb, hml, hown, hts⟩ (c_X6_wantedAt l D z q xo xb xg xn xt xp xk xf dy t1 r1 t2 r2 lt ty zz po me ml i H.size hlt) (cwV 1 hts gL_wantedAt_X6_wantedAt rfl rfl rfl hd_X6_wantedAt ⟨Nat.le_of_ble_eq_true rfl, Nat.le_of_ble_eq_true rfl⟩) hE hS hA hP hD [0, 1, 2, 3, 4, 5] rfl rfl rfl rfl rfl rfl rfl hl.1 rfl (Nat.le_of_ble_eq_true rfl) dL_wantedAt_2 ⟨Nat.le_of_ble_eq_true rfl, Nat.le_of_ble_eq_true rfl⟩ (fun E ce q9 H1 locs1 hbd _ _ _ _ _ _ => (e0 (hbd.1) : False).elim) (fun _ H locs hP hD hS => ?_)
  have hP : va_P D vwCl [(xo, .inr (6, [.ref xb, .ref xg, .ref xn, .ref xt, .ref xp, .ref xk, .ref xf, .int dy])), (xt, .inr (3, [.ref t1, .ref t2, .int zz, .int po, .int me, .int ml])), (t1, .inr (1, [.ref r1])), (r1, .inl (z 0, 40, .inl lt)), (t2, .inr (1, [.ref r2])), (r2, .inl (z 0, 40, .inl ty))] H := hP
  have hD : va_D A [(xo, .inr (6, [.ref xb, .ref xg, .ref xn, .ref xt, .ref xp, .ref xk, .ref xf, .int dy])), (xt, .inr (3, [.ref t1, .ref t2, .int zz, .int po, .int me, .int ml])), (t1, .inr (1, [.ref r1])), (r1, .inl (z 0, 40, .inl lt)), (t2, .inr (1, [.ref r2])), (r2, .inl (z 0, 40, .inl ty))] := hD
  exact hw_i hx hb hr hlocks hP hD hS dL_wantedAt_5 (rfl) rfl (Nat.le_of_ble_eq_true rfl) (Nat.le_of_ble_eq_true rfl)
theorem hd_L_speedOf : yL_speedOf.cls ≠ "java/lang/invoke/MethodHandle" ∧ yL_speedOf.cls ≠ "java/lang/invoke/VarHandle" ∧ (parseMethodDescriptor yL_speedOf.desc).map (fun d => d.parameters.length) = some 2 := by decide +kernel
set_option maxHeartbeats 4000000 in
set_option maxRecDepth 100000 in
theorem c_L_speedOf_0 (l : Launch) (D : va_G) (z : Nat → ClassId) (q : Nat → Nat) (xo : Nat) (xb : Nat) (xg : Nat) (xn : Nat) (xt : Nat) (xp : Nat) (xk : Nat) (xf : Nat) (dy : Int32) (p1 : Nat) (k1 : Nat) (kp : Nat → Int32) (sn : Int32) (i : Int32) (sz : Nat) (e0 : bW i 0 (sn - 1) = 0) (hlt : l.stackTraces = false) : HW l yL_speedOf wsL_speedOf ({ frames := 7, cells := 3, slots := 18, locals := 141 } : Room) D z q [.ref xo, .int i] [(xo, .inr (6, [.ref xb, .ref xg, .ref xn, .ref xt, .ref xp, .ref xk, .ref xf, .int dy])), (xp, .inr (5, [.ref p1, .int sn])), (p1, .inr (1, [.ref k1])), (k1, .inl (z 0, 100, .inl kp))] sz [(xo, .inr (6, [.ref xb, .ref xg, .ref xn, .ref xt, .ref xp, .ref xk, .ref xf, .int dy])), (xp, .inr (5, [.ref p1, .int sn])), (p1, .inr (1, [.ref k1])), (k1, .inl (z 0, 100, .inl kp))] (some (.int (-99999))) := by
  refine HW_mk (hh := [(0, 5, 6, 38)]) (cc := cL_speedOf) (maxL := 3) (ret := (some .int)) (by decide) rfl (Nat.le_of_ble_eq_true rfl) ?_
  intro p e s m below meth c A hx hb hr hml hts hown hlocks htab H hP hD hE hS hA ls hl
  have hK := hE.1
  have hown : s.vm.findClass RL = some m.cls := hown
  have hl : lv_has ls 3 [(0, .ref xo), (1, .int i)] := hl
  refine lv_aload_n hx hb dL_speedOf_0 rfl (lv_at hl 0 rfl) ?_
  refine lv_iload_n hx hb dL_speedOf_1 rfl (lv_at hl 1 rfl) ?_
  refine txV (As := [.int i]) (rest := []) ⟨hx, hb, hml, hown, hts⟩ (c_X6_speedOf l D z q xo xb xg xn xt xp xk xf dy p1 k1 kp sn i H.size hlt) (cwV 1 hts gL_speedOf_X6_speedOf rfl rfl rfl hd_X6_speedOf ⟨Nat.le_of_ble_eq_true rfl, Nat.le_of_ble_eq_true rfl⟩) hE hS hA hP hD [0, 1, 2, 3] rfl rfl rfl rfl rfl rfl rfl hl.1 rfl (Nat.le_of_ble_eq_true rfl) dL_speedOf_2 ⟨Nat.le_of_ble_eq_true rfl, Nat.le_of_ble_eq_true rfl⟩ (fun E ce q9 H1 locs1 hbd hP hD hS hce hcv hcl => ?_) (fun hok _ _ _ _ _ => (hok e0).elim)
  have hE9 : E = xI := hbd.2
  subst hE9
  refine vx_catch (own := RL) (name := xI) hown [] ⟨0, 5, 6, 38⟩ [] (by rw [htab]; rfl) (fun z hz => nomatch hz) rfl (by decide) (hts (.classLink RL 38 "java/lang/IndexOutOfBoundsException") (List.mem_of_getElem? (i := 1) rfl)) (va_Nw.use rfl (hE.2.2.2.2.2.1 xI xIm)) hce hcv hcl ?_
  refine lv_astore_n (lv' := [(2, .ref q9), (0, .ref xo), (1, .int i)]) hx hb dL_speedOf_6 rfl hl (by decide) rfl (fun ls hl => ?_)
  refine lv_ldc (v := (-99999)) hx hb hown (hts (.constant RL 40 (-99999)) (List.mem_of_getElem? (i := 2) rfl)) dL_speedOf_7 ?_
  exact hw_i hx hb hr hlocks hP hD hS dL_speedOf_9 (rfl) rfl (Nat.le_of_ble_eq_true rfl) (Nat.le_of_ble_eq_true rfl)
set_option maxHeartbeats 4000000 in
set_option maxRecDepth 100000 in
theorem c_L_speedOf_1 (l : Launch) (D : va_G) (z : Nat → ClassId) (q : Nat → Nat) (xo : Nat) (xb : Nat) (xg : Nat) (xn : Nat) (xt : Nat) (xp : Nat) (xk : Nat) (xf : Nat) (dy : Int32) (p1 : Nat) (k1 : Nat) (kp : Nat → Int32) (sn : Int32) (i : Int32) (sz : Nat) (e0 : ¬ bW i 0 (sn - 1) = 0) (hlt : l.stackTraces = false) : HW l yL_speedOf wsL_speedOf ({ frames := 7, cells := 3, slots := 18, locals := 141 } : Room) D z q [.ref xo, .int i] [(xo, .inr (6, [.ref xb, .ref xg, .ref xn, .ref xt, .ref xp, .ref xk, .ref xf, .int dy])), (xp, .inr (5, [.ref p1, .int sn])), (p1, .inr (1, [.ref k1])), (k1, .inl (z 0, 100, .inl kp))] sz [(xo, .inr (6, [.ref xb, .ref xg, .ref xn, .ref xt, .ref xp, .ref xk, .ref xf, .int dy])), (xp, .inr (5, [.ref p1, .int sn])), (p1, .inr (1, [.ref k1])), (k1, .inl (z 0, 100, .inl kp))] (some (.int (cAt 100 kp i))) := by
  refine HW_mk (hh := [(0, 5, 6, 38)]) (cc := cL_speedOf) (maxL := 3) (ret := (some .int)) (by decide) rfl (Nat.le_of_ble_eq_true rfl) ?_
  intro p e s m below meth c A hx hb hr hml hts hown hlocks htab H hP hD hE hS hA ls hl
  have hK := hE.1
  have hown : s.vm.findClass RL = some m.cls := hown
  have hl : lv_has ls 3 [(0, .ref xo), (1, .int i)] := hl
  refine lv_aload_n hx hb dL_speedOf_0 rfl (lv_at hl 0 rfl) ?_
  refine lv_iload_n hx hb dL_speedOf_1 rfl (lv_at hl 1 rfl) ?_
  refine txV (As := [.int i]) (rest := []) ⟨hx, hb, hml, hown, hts⟩ (c_X6_speedOf l D z q xo xb xg xn xt xp xk xf dy p1 k1 kp sn i H.size hlt) (cwV 1 hts gL_speedOf_X6_speedOf rfl rfl rfl hd_X6_speedOf ⟨Nat.le_of_ble_eq_true rfl, Nat.le_of_ble_eq_true rfl⟩) hE hS hA hP hD [0, 1, 2, 3] rfl rfl rfl rfl rfl rfl rfl hl.1 rfl (Nat.le_of_ble_eq_true rfl) dL_speedOf_2 ⟨Nat.le_of_ble_eq_true rfl, Nat.le_of_ble_eq_true rfl⟩ (fun E ce q9 H1 locs1 hbd _ _ _ _ _ _ => (e0 (hbd.1) : False).elim) (fun _ H locs hP hD hS => ?_)
  have hP : va_P D vwCl [(xo, .inr (6, [.ref xb, .ref xg, .ref xn, .ref xt, .ref xp, .ref xk, .ref xf, .int dy])), (xp, .inr (5, [.ref p1, .int sn])), (p1, .inr (1, [.ref k1])), (k1, .inl (z 0, 100, .inl kp))] H := hP
  have hD : va_D A [(xo, .inr (6, [.ref xb, .ref xg, .ref xn, .ref xt, .ref xp, .ref xk, .ref xf, .int dy])), (xp, .inr (5, [.ref p1, .int sn])), (p1, .inr (1, [.ref k1])), (k1, .inl (z 0, 100, .inl kp))] := hD
  exact hw_i hx hb hr hlocks hP hD hS dL_speedOf_5 (rfl) rfl (Nat.le_of_ble_eq_true rfl) (Nat.le_of_ble_eq_true rfl)
theorem c_X6_strokeA (l : Launch) (D : va_G) (z : Nat → ClassId) (q : Nat → Nat) (xo : Nat) (xb : Nat) (xg : Nat) (xn : Nat) (xt : Nat) (xp : Nat) (xk : Nat) (xf : Nat) (dy : Int32) (b1 : Nat) (w1 : Nat) (b2 : Nat) (w2 : Nat) (pl : Nat → Int32) (lo : Nat → Int32) (g1 : Nat) (y1 : Nat) (g2 : Nat) (y2 : Nat) (g3 : Nat) (y3 : Nat) (g4 : Nat) (y4 : Nat) (ct : Nat → Int32) (ti : Nat → Int32) (sh : Nat → Int32) (pr : Nat → Int32) (wt : Int32) (wh : Int32) (t1 : Nat) (r1 : Nat) (t2 : Nat) (r2 : Nat) (lt : Nat → Int32) (ty : Nat → Int32) (zz : Int32) (po : Int32) (me : Int32) (ml : Int32) (ka : Nat) (ek : Nat → Int32) (fa : Nat) (ef : Nat → Int32) (i : Int32) (mo : Int32) (du : Int32) (kd : Int32) (ct1 : Nat → Int32) (ti1 : Nat → Int32) (sh1 : Nat → Int32) (pr1 : Nat → Int32) (ty1 : Nat → Int32) (ek1 : Nat → Int32) (ef1 : Nat → Int32) (sz : Nat) (hdu : du = tAt lt zz po) (hkd : kd = kKind pl lo lt ty zz po i du) (hct : ct1 = cSet 26 ct du (cAt 26 ct du + 1)) (hti : ti1 = cSet 26 ti du (fAged (cAt 26 ti du) mo)) (hsh : sh1 = cSet 26 sh du (fShr (cAt 26 sh du) (if kd = -1 then 0 else 1))) (hpr : pr1 = kPr pr lt zz po du mo) (hty : ty1 = cSet 40 ty po i) (hek : ek1 = kErr ek 5 kd kd) (hef : ef1 = kErr ef 8 kd (bFin pl du)) (hlt : l.stackTraces = false) : TX l yX6_stroke wsX6_stroke ({ frames := 7, cells := 3, slots := 18, locals := 140 } : Room) D z q [.ref xo, .int i, .int mo] [(xo, .inr (6, [.ref xb, .ref xg, .ref xn, .ref xt, .ref xp, .ref xk, .ref xf, .int dy])), (xb, .inr (0, [.ref b1, .ref b2])), (b1, .inr (1, [.ref w1])), (w1, .inl (z 0, 26, .inl pl)), (b2, .inr (1, [.ref w2])), (w2, .inl (z 0, 30, .inl lo)), (xg, .inr (2, [.ref g1, .ref g2, .ref g3, .ref g4, .int wt, .int wh])), (g1, .inr (1, [.ref y1])), (y1, .inl (z 0, 26, .inl ct)), (g2, .inr (1, [.ref y2])), (y2, .inl (z 0, 26, .inl ti)), (g3, .inr (1, [.ref y3])), (y3, .inl (z 0, 26, .inl sh)), (g4, .inr (1, [.ref y4])), (y4, .inl (z 0, 676, .inl pr)), (xt, .inr (3, [.ref t1, .ref t2, .int zz, .int po, .int me, .int ml])), (t1, .inr (1, [.ref r1])), (r1, .inl (z 0, 40, .inl lt)), (t2, .inr (1, [.ref r2])), (r2, .inl (z 0, 40, .inl ty)), (xk, .inr (1, [.ref ka])), (ka, .inl (z 0, 5, .inl ek)), (xf, .inr (1, [.ref fa])), (fa, .inl (z 0, 8, .inl ef))] sz [(xo, .inr (6, [.ref xb, .ref xg, .ref xn, .ref xt, .ref xp, .ref xk, .ref xf, .int (dy + 1)])), (xb, .inr (0, [.ref b1, .ref b2])), (b1, .inr (1, [.ref w1])), (w1, .inl (z 0, 26, .inl pl)), (b2, .inr (1, [.ref w2])), (w2, .inl (z 0, 30, .inl lo)), (xg, .inr (2, [.ref g1, .ref g2, .ref g3, .ref g4, .int wt, .int wh])), (g1, .inr (1, [.ref y1])), (y1, .inl (z 0, 26, .inl ct1)), (g2, .inr (1, [.ref y2])), (y2, .inl (z 0, 26, .inl ti1)), (g3, .inr (1, [.ref y3])), (y3, .inl (z 0, 26, .inl sh1)), (g4, .inr (1, [.ref y4])), (y4, .inl (z 0, 676, .inl pr1)), (xt, .inr (3, [.ref t1, .ref t2, .int zz, .int (po + 1), .int me, .int (ml + mo)])), (t1, .inr (1, [.ref r1])), (r1, .inl (z 0, 40, .inl lt)), (t2, .inr (1, [.ref r2])), (r2, .inl (z 0, 40, .inl ty1)), (xk, .inr (1, [.ref ka])), (ka, .inl (z 0, 5, .inl ek1)), (xf, .inr (1, [.ref fa])), (fa, .inl (z 0, 8, .inl ef1))] (some (.int kd)) (¬ bW i 0 25 = 0 ∧ ¬ bW mo 1 5000 = 0 ∧ ¬ tAt lt zz po = -1) (fun E => (bW i 0 25 = 0 ∧ E = xI) ∨ (¬ bW i 0 25 = 0 ∧ bW mo 1 5000 = 0 ∧ E = xA) ∨ (¬ bW i 0 25 = 0 ∧ ¬ bW mo 1 5000 = 0 ∧ tAt lt zz po = -1 ∧ E = xS)) := by
  subst hef hek hty hpr hsh hti hct hkd hdu
  exact c_X6_stroke l D z q xo xb xg xn xt xp xk xf dy b1 w1 b2 w2 pl lo g1 y1 g2 y2 g3 y3 g4 y4 ct ti sh pr wt wh t1 r1 t2 r2 lt ty zz po me ml ka ek fa ef i mo sz hlt
theorem hd_L_does : yL_does.cls ≠ "java/lang/invoke/MethodHandle" ∧ yL_does.cls ≠ "java/lang/invoke/VarHandle" ∧ (parseMethodDescriptor yL_does.desc).map (fun d => d.parameters.length) = some 5 := by decide +kernel
set_option maxHeartbeats 4000000 in
set_option maxRecDepth 100000 in
theorem c_L_does_0_0 (l : Launch) (D : va_G) (z : Nat → ClassId) (q : Nat → Nat) (xo : Nat) (xb : Nat) (xg : Nat) (xn : Nat) (xt : Nat) (xp : Nat) (xk : Nat) (xf : Nat) (dy : Int32) (b1 : Nat) (w1 : Nat) (b2 : Nat) (w2 : Nat) (pl : Nat → Int32) (lo : Nat → Int32) (i : Int32) (co : Int32) (ro : Int32) (sz : Nat) (e0 : bW i 0 25 = 0) (hlt : l.stackTraces = false) : HW l yL_does wsL_does ({ frames := 8, cells := 3, slots := 18, locals := 163 } : Room) D z q [.ref xo, .int 0, .int i, .int co, .int ro] [(xo, .inr (6, [.ref xb, .ref xg, .ref xn, .ref xt, .ref xp, .ref xk, .ref xf, .int dy])), (xb, .inr (0, [.ref b1, .ref b2])), (b1, .inr (1, [.ref w1])), (w1, .inl (z 0, 26, .inl pl)), (b2, .inr (1, [.ref w2])), (w2, .inl (z 0, 30, .inl lo))] sz [(xo, .inr (6, [.ref xb, .ref xg, .ref xn, .ref xt, .ref xp, .ref xk, .ref xf, .int dy])), (xb, .inr (0, [.ref b1, .ref b2])), (b1, .inr (1, [.ref w1])), (w1, .inl (z 0, 26, .inl pl)), (b2, .inr (1, [.ref w2])), (w2, .inl (z 0, 30, .inl lo))] (some (.int (-99999))) := by
  refine HW_mk (hh := [(0, 86, 87, 38), (0, 86, 92, 41), (0, 86, 97, 43)]) (cc := cL_does) (maxL := 6) (ret := (some .int)) (by decide) rfl (Nat.le_of_ble_eq_true rfl) ?_
  intro p e s m below meth c A hx hb hr hml hts hown hlocks htab H hP hD hE hS hA ls hl
  have hK := hE.1
  have hown : s.vm.findClass RL = some m.cls := hown
  have hl : lv_has ls 6 [(0, .ref xo), (1, .int 0), (2, .int i), (3, .int co), (4, .int ro)] := hl
  refine lv_iload_n hx hb dL_does_0 rfl (lv_at hl 1 rfl) ?_
  refine lv_if_ne (tgt := 15) hx hb dL_does_1 (by decide) (fun c_1 => absurd (by decide) c_1) (fun _ => ?_)
  refine lv_aload_n hx hb dL_does_4 rfl (lv_at hl 0 rfl) ?_
  refine lv_iload_n hx hb dL_does_5 rfl (lv_at hl 2 rfl) ?_
  refine lv_iload_n hx hb dL_does_6 rfl (lv_at hl 3 rfl) ?_
  refine lv_iload hx hb dL_does_7 (lv_at hl 4 rfl) ?_
  refine txV (As := [.int i, .int co, .int ro]) (rest := []) ⟨hx, hb, hml, hown, hts⟩ (c_X6_put l D z q xo xb xg xn xt xp xk xf dy b1 w1 b2 w2 pl lo i co ro H.size hlt) (cwV 3 hts gL_does_X6_put rfl rfl rfl hd_X6_put ⟨Nat.le_of_ble_eq_true rfl, Nat.le_of_ble_eq_true rfl⟩) hE hS hA hP hD [0, 1, 2, 3, 4, 5] rfl rfl rfl rfl rfl rfl rfl hl.1 rfl (Nat.le_of_ble_eq_true rfl) dL_does_9 ⟨Nat.le_of_ble_eq_true rfl, Nat.le_of_ble_eq_true rfl⟩ (fun E ce q9 H1 locs1 hbd hP hD hS hce hcv hcl => ?_) (fun hok _ _ _ _ _ => (hok.1 e0).elim)
  have hE9 : E = xI := hbd.elim (fun h0 => h0.2) (fun h0 => h0.elim (fun h1 => (h1.1 e0).elim) (fun h1 => (h1.1 e0).elim))
  subst hE9
  refine vx_catch (own := RL) (name := xI) hown [] ⟨0, 86, 87, 38⟩ [⟨0, 86, 92, 41⟩, ⟨0, 86, 97, 43⟩] (by rw [htab]; rfl) (fun z hz => nomatch hz) rfl (by decide) (hts (.classLink RL 38 "java/lang/IndexOutOfBoundsException") (List.mem_of_getElem? (i := 1) rfl)) (va_Nw.use rfl (hE.2.2.2.2.2.1 xI xIm)) hce hcv hcl ?_
  refine lv_astore (lv' := [(5, .ref q9), (0, .ref xo), (1, .int 0), (2, .int i), (3, .int co), (4, .int ro)]) hx hb dL_does_87 hl (by decide) rfl (fun ls hl => ?_)
  refine lv_ldc (v := (-99999)) hx hb hown (hts (.constant RL 40 (-99999)) (List.mem_of_getElem? (i := 4) rfl)) dL_does_89 ?_
  exact hw_i hx hb hr hlocks hP hD hS dL_does_91 (rfl) rfl (Nat.le_of_ble_eq_true rfl) (Nat.le_of_ble_eq_true rfl)
set_option maxHeartbeats 4000000 in
set_option maxRecDepth 100000 in
theorem c_L_does_0_1 (l : Launch) (D : va_G) (z : Nat → ClassId) (q : Nat → Nat) (xo : Nat) (xb : Nat) (xg : Nat) (xn : Nat) (xt : Nat) (xp : Nat) (xk : Nat) (xf : Nat) (dy : Int32) (b1 : Nat) (w1 : Nat) (b2 : Nat) (w2 : Nat) (pl : Nat → Int32) (lo : Nat → Int32) (i : Int32) (co : Int32) (ro : Int32) (sz : Nat) (e0 : ¬ bW i 0 25 = 0) (e1 : bW co 0 9 = 0) (hlt : l.stackTraces = false) : HW l yL_does wsL_does ({ frames := 8, cells := 3, slots := 18, locals := 163 } : Room) D z q [.ref xo, .int 0, .int i, .int co, .int ro] [(xo, .inr (6, [.ref xb, .ref xg, .ref xn, .ref xt, .ref xp, .ref xk, .ref xf, .int dy])), (xb, .inr (0, [.ref b1, .ref b2])), (b1, .inr (1, [.ref w1])), (w1, .inl (z 0, 26, .inl pl)), (b2, .inr (1, [.ref w2])), (w2, .inl (z 0, 30, .inl lo))] sz [(xo, .inr (6, [.ref xb, .ref xg, .ref xn, .ref xt, .ref xp, .ref xk, .ref xf, .int dy])), (xb, .inr (0, [.ref b1, .ref b2])), (b1, .inr (1, [.ref w1])), (w1, .inl (z 0, 26, .inl pl)), (b2, .inr (1, [.ref w2])), (w2, .inl (z 0, 30, .inl lo))] (some (.int (-99999))) := by
  refine HW_mk (hh := [(0, 86, 87, 38), (0, 86, 92, 41), (0, 86, 97, 43)]) (cc := cL_does) (maxL := 6) (ret := (some .int)) (by decide) rfl (Nat.le_of_ble_eq_true rfl) ?_
  intro p e s m below meth c A hx hb hr hml hts hown hlocks htab H hP hD hE hS hA ls hl
  have hK := hE.1
  have hown : s.vm.findClass RL = some m.cls := hown
  have hl : lv_has ls 6 [(0, .ref xo), (1, .int 0), (2, .int i), (3, .int co), (4, .int ro)] := hl
  refine lv_iload_n hx hb dL_does_0 rfl (lv_at hl 1 rfl) ?_
  refine lv_if_ne (tgt := 15) hx hb dL_does_1 (by decide) (fun c_1 => absurd (by decide) c_1) (fun _ => ?_)
  refine lv_aload_n hx hb dL_does_4 rfl (lv_at hl 0 rfl) ?_
  refine lv_iload_n hx hb dL_does_5 rfl (lv_at hl 2 rfl) ?_
  refine lv_iload_n hx hb dL_does_6 rfl (lv_at hl 3 rfl) ?_
  refine lv_iload hx hb dL_does_7 (lv_at hl 4 rfl) ?_
  refine txV (As := [.int i, .int co, .int ro]) (rest := []) ⟨hx, hb, hml, hown, hts⟩ (c_X6_put l D z q xo xb xg xn xt xp xk xf dy b1 w1 b2 w2 pl lo i co ro H.size hlt) (cwV 3 hts gL_does_X6_put rfl rfl rfl hd_X6_put ⟨Nat.le_of_ble_eq_true rfl, Nat.le_of_ble_eq_true rfl⟩) hE hS hA hP hD [0, 1, 2, 3, 4, 5] rfl rfl rfl rfl rfl rfl rfl hl.1 rfl (Nat.le_of_ble_eq_true rfl) dL_does_9 ⟨Nat.le_of_ble_eq_true rfl, Nat.le_of_ble_eq_true rfl⟩ (fun E ce q9 H1 locs1 hbd hP hD hS hce hcv hcl => ?_) (fun hok _ _ _ _ _ => (hok.2.1 e1).elim)
  have hE9 : E = xI := hbd.elim (fun h0 => absurd (h0.1) e0) (fun h0 => h0.elim (fun h1 => h1.2.2) (fun h1 => (h1.2.1 e1).elim))
  subst hE9
  refine vx_catch (own := RL) (name := xI) hown [] ⟨0, 86, 87, 38⟩ [⟨0, 86, 92, 41⟩, ⟨0, 86, 97, 43⟩] (by rw [htab]; rfl) (fun z hz => nomatch hz) rfl (by decide) (hts (.classLink RL 38 "java/lang/IndexOutOfBoundsException") (List.mem_of_getElem? (i := 1) rfl)) (va_Nw.use rfl (hE.2.2.2.2.2.1 xI xIm)) hce hcv hcl ?_
  refine lv_astore (lv' := [(5, .ref q9), (0, .ref xo), (1, .int 0), (2, .int i), (3, .int co), (4, .int ro)]) hx hb dL_does_87 hl (by decide) rfl (fun ls hl => ?_)
  refine lv_ldc (v := (-99999)) hx hb hown (hts (.constant RL 40 (-99999)) (List.mem_of_getElem? (i := 4) rfl)) dL_does_89 ?_
  exact hw_i hx hb hr hlocks hP hD hS dL_does_91 (rfl) rfl (Nat.le_of_ble_eq_true rfl) (Nat.le_of_ble_eq_true rfl)
set_option maxHeartbeats 4000000 in
set_option maxRecDepth 100000 in
theorem c_L_does_0_2 (l : Launch) (D : va_G) (z : Nat → ClassId) (q : Nat → Nat) (xo : Nat) (xb : Nat) (xg : Nat) (xn : Nat) (xt : Nat) (xp : Nat) (xk : Nat) (xf : Nat) (dy : Int32) (b1 : Nat) (w1 : Nat) (b2 : Nat) (w2 : Nat) (pl : Nat → Int32) (lo : Nat → Int32) (i : Int32) (co : Int32) (ro : Int32) (sz : Nat) (e0 : ¬ bW i 0 25 = 0) (e1 : ¬ bW co 0 9 = 0) (e2 : bW ro 0 2 = 0) (hlt : l.stackTraces = false) : HW l yL_does wsL_does ({ frames := 8, cells := 3, slots := 18, locals := 163 } : Room) D z q [.ref xo, .int 0, .int i, .int co, .int ro] [(xo, .inr (6, [.ref xb, .ref xg, .ref xn, .ref xt, .ref xp, .ref xk, .ref xf, .int dy])), (xb, .inr (0, [.ref b1, .ref b2])), (b1, .inr (1, [.ref w1])), (w1, .inl (z 0, 26, .inl pl)), (b2, .inr (1, [.ref w2])), (w2, .inl (z 0, 30, .inl lo))] sz [(xo, .inr (6, [.ref xb, .ref xg, .ref xn, .ref xt, .ref xp, .ref xk, .ref xf, .int dy])), (xb, .inr (0, [.ref b1, .ref b2])), (b1, .inr (1, [.ref w1])), (w1, .inl (z 0, 26, .inl pl)), (b2, .inr (1, [.ref w2])), (w2, .inl (z 0, 30, .inl lo))] (some (.int (-99999))) := by
  refine HW_mk (hh := [(0, 86, 87, 38), (0, 86, 92, 41), (0, 86, 97, 43)]) (cc := cL_does) (maxL := 6) (ret := (some .int)) (by decide) rfl (Nat.le_of_ble_eq_true rfl) ?_
  intro p e s m below meth c A hx hb hr hml hts hown hlocks htab H hP hD hE hS hA ls hl
  have hK := hE.1
  have hown : s.vm.findClass RL = some m.cls := hown
  have hl : lv_has ls 6 [(0, .ref xo), (1, .int 0), (2, .int i), (3, .int co), (4, .int ro)] := hl
  refine lv_iload_n hx hb dL_does_0 rfl (lv_at hl 1 rfl) ?_
  refine lv_if_ne (tgt := 15) hx hb dL_does_1 (by decide) (fun c_1 => absurd (by decide) c_1) (fun _ => ?_)
  refine lv_aload_n hx hb dL_does_4 rfl (lv_at hl 0 rfl) ?_
  refine lv_iload_n hx hb dL_does_5 rfl (lv_at hl 2 rfl) ?_
  refine lv_iload_n hx hb dL_does_6 rfl (lv_at hl 3 rfl) ?_
  refine lv_iload hx hb dL_does_7 (lv_at hl 4 rfl) ?_
  refine txV (As := [.int i, .int co, .int ro]) (rest := []) ⟨hx, hb, hml, hown, hts⟩ (c_X6_put l D z q xo xb xg xn xt xp xk xf dy b1 w1 b2 w2 pl lo i co ro H.size hlt) (cwV 3 hts gL_does_X6_put rfl rfl rfl hd_X6_put ⟨Nat.le_of_ble_eq_true rfl, Nat.le_of_ble_eq_true rfl⟩) hE hS hA hP hD [0, 1, 2, 3, 4, 5] rfl rfl rfl rfl rfl rfl rfl hl.1 rfl (Nat.le_of_ble_eq_true rfl) dL_does_9 ⟨Nat.le_of_ble_eq_true rfl, Nat.le_of_ble_eq_true rfl⟩ (fun E ce q9 H1 locs1 hbd hP hD hS hce hcv hcl => ?_) (fun hok _ _ _ _ _ => (hok.2.2 e2).elim)
  have hE9 : E = xI := hbd.elim (fun h0 => absurd (h0.1) e0) (fun h0 => h0.elim (fun h1 => absurd (h1.2.1) e1) (fun h1 => h1.2.2.2))
  subst hE9
  refine vx_catch (own := RL) (name := xI) hown [] ⟨0, 86, 87, 38⟩ [⟨0, 86, 92, 41⟩, ⟨0, 86, 97, 43⟩] (by rw [htab]; rfl) (fun z hz => nomatch hz) rfl (by decide) (hts (.classLink RL 38 "java/lang/IndexOutOfBoundsException") (List.mem_of_getElem? (i := 1) rfl)) (va_Nw.use rfl (hE.2.2.2.2.2.1 xI xIm)) hce hcv hcl ?_
  refine lv_astore (lv' := [(5, .ref q9), (0, .ref xo), (1, .int 0), (2, .int i), (3, .int co), (4, .int ro)]) hx hb dL_does_87 hl (by decide) rfl (fun ls hl => ?_)
  refine lv_ldc (v := (-99999)) hx hb hown (hts (.constant RL 40 (-99999)) (List.mem_of_getElem? (i := 4) rfl)) dL_does_89 ?_
  exact hw_i hx hb hr hlocks hP hD hS dL_does_91 (rfl) rfl (Nat.le_of_ble_eq_true rfl) (Nat.le_of_ble_eq_true rfl)
set_option maxHeartbeats 4000000 in
set_option maxRecDepth 100000 in
theorem c_L_does_0_3 (l : Launch) (D : va_G) (z : Nat → ClassId) (q : Nat → Nat) (xo : Nat) (xb : Nat) (xg : Nat) (xn : Nat) (xt : Nat) (xp : Nat) (xk : Nat) (xf : Nat) (dy : Int32) (b1 : Nat) (w1 : Nat) (b2 : Nat) (w2 : Nat) (pl : Nat → Int32) (lo : Nat → Int32) (i : Int32) (co : Int32) (ro : Int32) (sz : Nat) (e0 : ¬ bW i 0 25 = 0) (e1 : ¬ bW co 0 9 = 0) (e2 : ¬ bW ro 0 2 = 0) (hlt : l.stackTraces = false) : HW l yL_does wsL_does ({ frames := 8, cells := 3, slots := 18, locals := 163 } : Room) D z q [.ref xo, .int 0, .int i, .int co, .int ro] [(xo, .inr (6, [.ref xb, .ref xg, .ref xn, .ref xt, .ref xp, .ref xk, .ref xf, .int dy])), (xb, .inr (0, [.ref b1, .ref b2])), (b1, .inr (1, [.ref w1])), (w1, .inl (z 0, 26, .inl pl)), (b2, .inr (1, [.ref w2])), (w2, .inl (z 0, 30, .inl lo))] sz [(xo, .inr (6, [.ref xb, .ref xg, .ref xn, .ref xt, .ref xp, .ref xk, .ref xf, .int dy])), (xb, .inr (0, [.ref b1, .ref b2])), (b1, .inr (1, [.ref w1])), (w1, .inl (z 0, 26, .inl (bMovP pl lo i (ro * 10 + co)))), (b2, .inr (1, [.ref w2])), (w2, .inl (z 0, 30, .inl (bMovL pl lo i (ro * 10 + co))))] (some (.int (cAt 30 lo (ro * 10 + co)))) := by
  refine HW_mk (hh := [(0, 86, 87, 38), (0, 86, 92, 41), (0, 86, 97, 43)]) (cc := cL_does) (maxL := 6) (ret := (some .int)) (by decide) rfl (Nat.le_of_ble_eq_true rfl) ?_
  intro p e s m below meth c A hx hb hr hml hts hown hlocks htab H hP hD hE hS hA ls hl
  have hK := hE.1
  have hown : s.vm.findClass RL = some m.cls := hown
  have hl : lv_has ls 6 [(0, .ref xo), (1, .int 0), (2, .int i), (3, .int co), (4, .int ro)] := hl
  refine lv_iload_n hx hb dL_does_0 rfl (lv_at hl 1 rfl) ?_
  refine lv_if_ne (tgt := 15) hx hb dL_does_1 (by decide) (fun c_1 => absurd (by decide) c_1) (fun _ => ?_)
  refine lv_aload_n hx hb dL_does_4 rfl (lv_at hl 0 rfl) ?_
  refine lv_iload_n hx hb dL_does_5 rfl (lv_at hl 2 rfl) ?_
  refine lv_iload_n hx hb dL_does_6 rfl (lv_at hl 3 rfl) ?_
  refine lv_iload hx hb dL_does_7 (lv_at hl 4 rfl) ?_
  refine txV (As := [.int i, .int co, .int ro]) (rest := []) ⟨hx, hb, hml, hown, hts⟩ (c_X6_put l D z q xo xb xg xn xt xp xk xf dy b1 w1 b2 w2 pl lo i co ro H.size hlt) (cwV 3 hts gL_does_X6_put rfl rfl rfl hd_X6_put ⟨Nat.le_of_ble_eq_true rfl, Nat.le_of_ble_eq_true rfl⟩) hE hS hA hP hD [0, 1, 2, 3, 4, 5] rfl rfl rfl rfl rfl rfl rfl hl.1 rfl (Nat.le_of_ble_eq_true rfl) dL_does_9 ⟨Nat.le_of_ble_eq_true rfl, Nat.le_of_ble_eq_true rfl⟩ (fun E ce q9 H1 locs1 hbd _ _ _ _ _ _ => (hbd.elim (fun h0 => e0 (h0.1)) (fun h0 => h0.elim (fun h1 => e1 (h1.2.1)) (fun h1 => e2 (h1.2.2.1))) : False).elim) (fun _ H locs hP hD hS => ?_)
  have hP : va_P D vwCl [(xo, .inr (6, [.ref xb, .ref xg, .ref xn, .ref xt, .ref xp, .ref xk, .ref xf, .int dy])), (xb, .inr (0, [.ref b1, .ref b2])), (b1, .inr (1, [.ref w1])), (w1, .inl (z 0, 26, .inl (bMovP pl lo i (ro * 10 + co)))), (b2, .inr (1, [.ref w2])), (w2, .inl (z 0, 30, .inl (bMovL pl lo i (ro * 10 + co))))] H := hP
  have hD : va_D A [(xo, .inr (6, [.ref xb, .ref xg, .ref xn, .ref xt, .ref xp, .ref xk, .ref xf, .int dy])), (xb, .inr (0, [.ref b1, .ref b2])), (b1, .inr (1, [.ref w1])), (w1, .inl (z 0, 26, .inl (bMovP pl lo i (ro * 10 + co)))), (b2, .inr (1, [.ref w2])), (w2, .inl (z 0, 30, .inl (bMovL pl lo i (ro * 10 + co))))] := hD
  refine lv_goto (tgt := 86) hx hb dL_does_12 (by decide) ?_
  exact hw_i hx hb hr hlocks hP hD hS dL_does_86 (rfl) rfl (Nat.le_of_ble_eq_true rfl) (Nat.le_of_ble_eq_true rfl)
set_option maxHeartbeats 4000000 in
set_option maxRecDepth 100000 in
theorem c_L_does_1_0 (l : Launch) (D : va_G) (z : Nat → ClassId) (q : Nat → Nat) (xo : Nat) (xb : Nat) (xg : Nat) (xn : Nat) (xt : Nat) (xp : Nat) (xk : Nat) (xf : Nat) (dy : Int32) (t1 : Nat) (r1 : Nat) (t2 : Nat) (r2 : Nat) (lt : Nat → Int32) (ty : Nat → Int32) (zz : Int32) (po : Int32) (me : Int32) (ml : Int32) (i : Int32) (x1 : Int32) (x2 : Int32) (sz : Nat) (e0 : bW i 0 25 = 0) (hlt : l.stackTraces = false) : HW l yL_does wsL_does ({ frames := 8, cells := 3, slots := 18, locals := 161 } : Room) D z q [.ref xo, .int 1, .int i, .int x1, .int x2] [(xo, .inr (6, [.ref xb, .ref xg, .ref xn, .ref xt, .ref xp, .ref xk, .ref xf, .int dy])), (xt, .inr (3, [.ref t1, .ref t2, .int zz, .int po, .int me, .int ml])), (t1, .inr (1, [.ref r1])), (r1, .inl (z 0, 40, .inl lt)), (t2, .inr (1, [.ref r2])), (r2, .inl (z 0, 40, .inl ty))] sz [(xo, .inr (6, [.ref xb, .ref xg, .ref xn, .ref xt, .ref xp, .ref xk, .ref xf, .int dy])), (xt, .inr (3, [.ref t1, .ref t2, .int zz, .int po, .int me, .int ml])), (t1, .inr (1, [.ref r1])), (r1, .inl (z 0, 40, .inl lt)), (t2, .inr (1, [.ref r2])), (r2, .inl (z 0, 40, .inl ty))] (some (.int (-99999))) := by
  refine HW_mk (hh := [(0, 86, 87, 38), (0, 86, 92, 41), (0, 86, 97, 43)]) (cc := cL_does) (maxL := 6) (ret := (some .int)) (by decide) rfl (Nat.le_of_ble_eq_true rfl) ?_
  intro p e s m below meth c A hx hb hr hml hts hown hlocks htab H hP hD hE hS hA ls hl
  have hK := hE.1
  have hown : s.vm.findClass RL = some m.cls := hown
  have hl : lv_has ls 6 [(0, .ref xo), (1, .int 1), (2, .int i), (3, .int x1), (4, .int x2)] := hl
  refine lv_iload_n hx hb dL_does_0 rfl (lv_at hl 1 rfl) ?_
  refine lv_if_ne (tgt := 15) hx hb dL_does_1 (by decide) (fun _ => ?_) (fun c_1 => absurd c_1 (by decide))
  refine lv_iload_n hx hb dL_does_15 rfl (lv_at hl 1 rfl) ?_
  refine lv_iconst (v := 1) hx hb dL_does_16 (by decide) ?_
  refine lv_icmp_ne (tgt := 28) hx hb dL_does_17 (by decide) (fun c_2 => absurd (by decide) c_2) (fun _ => ?_)
  refine lv_aload_n hx hb dL_does_20 rfl (lv_at hl 0 rfl) ?_
  refine lv_iload_n hx hb dL_does_21 rfl (lv_at hl 2 rfl) ?_
  refine txV (As := [.int i]) (rest := []) ⟨hx, hb, hml, hown, hts⟩ (c_X6_want l D z q xo xb xg xn xt xp xk xf dy t1 r1 t2 r2 lt ty zz po me ml i H.size hlt) (cwV 1 hts gL_does_X6_want rfl rfl rfl hd_X6_want ⟨Nat.le_of_ble_eq_true rfl, Nat.le_of_ble_eq_true rfl⟩) hE hS hA hP hD [0, 1, 2, 3, 4, 5] rfl rfl rfl rfl rfl rfl rfl hl.1 rfl (Nat.le_of_ble_eq_true rfl) dL_does_22 ⟨Nat.le_of_ble_eq_true rfl, Nat.le_of_ble_eq_true rfl⟩ (fun E ce q9 H1 locs1 hbd hP hD hS hce hcv hcl => ?_) (fun hok _ _ _ _ _ => (hok.1 e0).elim)
  have hE9 : E = xI := hbd.elim (fun h0 => h0.2) (fun h0 => (h0.1 e0).elim)
  subst hE9
  refine vx_catch (own := RL) (name := xI) hown [] ⟨0, 86, 87, 38⟩ [⟨0, 86, 92, 41⟩, ⟨0, 86, 97, 43⟩] (by rw [htab]; rfl) (fun z hz => nomatch hz) rfl (by decide) (hts (.classLink RL 38 "java/lang/IndexOutOfBoundsException") (List.mem_of_getElem? (i := 1) rfl)) (va_Nw.use rfl (hE.2.2.2.2.2.1 xI xIm)) hce hcv hcl ?_
  refine lv_astore (lv' := [(5, .ref q9), (0, .ref xo), (1, .int 1), (2, .int i), (3, .int x1), (4, .int x2)]) hx hb dL_does_87 hl (by decide) rfl (fun ls hl => ?_)
  refine lv_ldc (v := (-99999)) hx hb hown (hts (.constant RL 40 (-99999)) (List.mem_of_getElem? (i := 4) rfl)) dL_does_89 ?_
  exact hw_i hx hb hr hlocks hP hD hS dL_does_91 (rfl) rfl (Nat.le_of_ble_eq_true rfl) (Nat.le_of_ble_eq_true rfl)
set_option maxHeartbeats 4000000 in
set_option maxRecDepth 100000 in
theorem c_L_does_1_1 (l : Launch) (D : va_G) (z : Nat → ClassId) (q : Nat → Nat) (xo : Nat) (xb : Nat) (xg : Nat) (xn : Nat) (xt : Nat) (xp : Nat) (xk : Nat) (xf : Nat) (dy : Int32) (t1 : Nat) (r1 : Nat) (t2 : Nat) (r2 : Nat) (lt : Nat → Int32) (ty : Nat → Int32) (zz : Int32) (po : Int32) (me : Int32) (ml : Int32) (i : Int32) (x1 : Int32) (x2 : Int32) (sz : Nat) (e0 : ¬ bW i 0 25 = 0) (e1 : ¬ tFull zz = 0) (hlt : l.stackTraces = false) : HW l yL_does wsL_does ({ frames := 8, cells := 3, slots := 18, locals := 161 } : Room) D z q [.ref xo, .int 1, .int i, .int x1, .int x2] [(xo, .inr (6, [.ref xb, .ref xg, .ref xn, .ref xt, .ref xp, .ref xk, .ref xf, .int dy])), (xt, .inr (3, [.ref t1, .ref t2, .int zz, .int po, .int me, .int ml])), (t1, .inr (1, [.ref r1])), (r1, .inl (z 0, 40, .inl lt)), (t2, .inr (1, [.ref r2])), (r2, .inl (z 0, 40, .inl ty))] sz [(xo, .inr (6, [.ref xb, .ref xg, .ref xn, .ref xt, .ref xp, .ref xk, .ref xf, .int dy])), (xt, .inr (3, [.ref t1, .ref t2, .int zz, .int po, .int me, .int ml])), (t1, .inr (1, [.ref r1])), (r1, .inl (z 0, 40, .inl lt)), (t2, .inr (1, [.ref r2])), (r2, .inl (z 0, 40, .inl ty))] (some (.int (-99999))) := by
  refine HW_mk (hh := [(0, 86, 87, 38), (0, 86, 92, 41), (0, 86, 97, 43)]) (cc := cL_does) (maxL := 6) (ret := (some .int)) (by decide) rfl (Nat.le_of_ble_eq_true rfl) ?_
  intro p e s m below meth c A hx hb hr hml hts hown hlocks htab H hP hD hE hS hA ls hl
  have hK := hE.1
  have hown : s.vm.findClass RL = some m.cls := hown
  have hl : lv_has ls 6 [(0, .ref xo), (1, .int 1), (2, .int i), (3, .int x1), (4, .int x2)] := hl
  refine lv_iload_n hx hb dL_does_0 rfl (lv_at hl 1 rfl) ?_
  refine lv_if_ne (tgt := 15) hx hb dL_does_1 (by decide) (fun _ => ?_) (fun c_1 => absurd c_1 (by decide))
  refine lv_iload_n hx hb dL_does_15 rfl (lv_at hl 1 rfl) ?_
  refine lv_iconst (v := 1) hx hb dL_does_16 (by decide) ?_
  refine lv_icmp_ne (tgt := 28) hx hb dL_does_17 (by decide) (fun c_2 => absurd (by decide) c_2) (fun _ => ?_)
  refine lv_aload_n hx hb dL_does_20 rfl (lv_at hl 0 rfl) ?_
  refine lv_iload_n hx hb dL_does_21 rfl (lv_at hl 2 rfl) ?_
  refine txV (As := [.int i]) (rest := []) ⟨hx, hb, hml, hown, hts⟩ (c_X6_want l D z q xo xb xg xn xt xp xk xf dy t1 r1 t2 r2 lt ty zz po me ml i H.size hlt) (cwV 1 hts gL_does_X6_want rfl rfl rfl hd_X6_want ⟨Nat.le_of_ble_eq_true rfl, Nat.le_of_ble_eq_true rfl⟩) hE hS hA hP hD [0, 1, 2, 3, 4, 5] rfl rfl rfl rfl rfl rfl rfl hl.1 rfl (Nat.le_of_ble_eq_true rfl) dL_does_22 ⟨Nat.le_of_ble_eq_true rfl, Nat.le_of_ble_eq_true rfl⟩ (fun E ce q9 H1 locs1 hbd hP hD hS hce hcv hcl => ?_) (fun hok _ _ _ _ _ => (hok.2 e1).elim)
  have hE9 : E = xS := hbd.elim (fun h0 => absurd (h0.1) e0) (fun h0 => h0.2.2)
  subst hE9
  refine vx_catch (own := RL) (name := xS) hown [⟨0, 86, 87, 38⟩, ⟨0, 86, 92, 41⟩] ⟨0, 86, 97, 43⟩ [] (by rw [htab]; rfl) (fun z hz => (List.mem_cons.mp hz).elim (fun h => by subst h; exact Or.inr ⟨by decide, _, hts (.classLink RL 38 "java/lang/IndexOutOfBoundsException") (List.mem_of_getElem? (i := 1) rfl), hE.2.2.2.2.2.2.1 _ (List.mem_of_getElem? (i := 1) rfl)⟩) (fun hz => (List.mem_cons.mp hz).elim (fun h => by subst h; exact Or.inr ⟨by decide, _, hts (.classLink RL 41 "java/lang/IllegalArgumentException") (List.mem_of_getElem? (i := 2) rfl), hE.2.2.2.2.2.2.1 _ (List.mem_of_getElem? (i := 2) rfl)⟩) (fun hz => nomatch hz))) rfl (by decide) (hts (.classLink RL 43 "java/lang/IllegalStateException") (List.mem_of_getElem? (i := 3) rfl)) (va_Nw.use rfl (hE.2.2.2.2.2.1 xS xSm)) hce hcv hcl ?_
  refine lv_astore (lv' := [(5, .ref q9), (0, .ref xo), (1, .int 1), (2, .int i), (3, .int x1), (4, .int x2)]) hx hb dL_does_97 hl (by decide) rfl (fun ls hl => ?_)
  refine lv_ldc (v := (-99999)) hx hb hown (hts (.constant RL 40 (-99999)) (List.mem_of_getElem? (i := 4) rfl)) dL_does_99 ?_
  exact hw_i hx hb hr hlocks hP hD hS dL_does_101 (rfl) rfl (Nat.le_of_ble_eq_true rfl) (Nat.le_of_ble_eq_true rfl)
set_option maxHeartbeats 4000000 in
set_option maxRecDepth 100000 in
theorem c_L_does_1_2 (l : Launch) (D : va_G) (z : Nat → ClassId) (q : Nat → Nat) (xo : Nat) (xb : Nat) (xg : Nat) (xn : Nat) (xt : Nat) (xp : Nat) (xk : Nat) (xf : Nat) (dy : Int32) (t1 : Nat) (r1 : Nat) (t2 : Nat) (r2 : Nat) (lt : Nat → Int32) (ty : Nat → Int32) (zz : Int32) (po : Int32) (me : Int32) (ml : Int32) (i : Int32) (x1 : Int32) (x2 : Int32) (sz : Nat) (e0 : ¬ bW i 0 25 = 0) (e1 : ¬ (¬ tFull zz = 0)) (hlt : l.stackTraces = false) : HW l yL_does wsL_does ({ frames := 8, cells := 3, slots := 18, locals := 161 } : Room) D z q [.ref xo, .int 1, .int i, .int x1, .int x2] [(xo, .inr (6, [.ref xb, .ref xg, .ref xn, .ref xt, .ref xp, .ref xk, .ref xf, .int dy])), (xt, .inr (3, [.ref t1, .ref t2, .int zz, .int po, .int me, .int ml])), (t1, .inr (1, [.ref r1])), (r1, .inl (z 0, 40, .inl lt)), (t2, .inr (1, [.ref r2])), (r2, .inl (z 0, 40, .inl ty))] sz [(xo, .inr (6, [.ref xb, .ref xg, .ref xn, .ref xt, .ref xp, .ref xk, .ref xf, .int dy])), (xt, .inr (3, [.ref t1, .ref t2, .int (zz + 1), .int po, .int me, .int ml])), (t1, .inr (1, [.ref r1])), (r1, .inl (z 0, 40, .inl (cSet 40 lt zz i))), (t2, .inr (1, [.ref r2])), (r2, .inl (z 0, 40, .inl ty))] (some (.int (zz + 1))) := by
  refine HW_mk (hh := [(0, 86, 87, 38), (0, 86, 92, 41), (0, 86, 97, 43)]) (cc := cL_does) (maxL := 6) (ret := (some .int)) (by decide) rfl (Nat.le_of_ble_eq_true rfl) ?_
  intro p e s m below meth c A hx hb hr hml hts hown hlocks htab H hP hD hE hS hA ls hl
  have hK := hE.1
  have hown : s.vm.findClass RL = some m.cls := hown
  have hl : lv_has ls 6 [(0, .ref xo), (1, .int 1), (2, .int i), (3, .int x1), (4, .int x2)] := hl
  refine lv_iload_n hx hb dL_does_0 rfl (lv_at hl 1 rfl) ?_
  refine lv_if_ne (tgt := 15) hx hb dL_does_1 (by decide) (fun _ => ?_) (fun c_1 => absurd c_1 (by decide))
  refine lv_iload_n hx hb dL_does_15 rfl (lv_at hl 1 rfl) ?_
  refine lv_iconst (v := 1) hx hb dL_does_16 (by decide) ?_
  refine lv_icmp_ne (tgt := 28) hx hb dL_does_17 (by decide) (fun c_2 => absurd (by decide) c_2) (fun _ => ?_)
  refine lv_aload_n hx hb dL_does_20 rfl (lv_at hl 0 rfl) ?_
  refine lv_iload_n hx hb dL_does_21 rfl (lv_at hl 2 rfl) ?_
  refine txV (As := [.int i]) (rest := []) ⟨hx, hb, hml, hown, hts⟩ (c_X6_want l D z q xo xb xg xn xt xp xk xf dy t1 r1 t2 r2 lt ty zz po me ml i H.size hlt) (cwV 1 hts gL_does_X6_want rfl rfl rfl hd_X6_want ⟨Nat.le_of_ble_eq_true rfl, Nat.le_of_ble_eq_true rfl⟩) hE hS hA hP hD [0, 1, 2, 3, 4, 5] rfl rfl rfl rfl rfl rfl rfl hl.1 rfl (Nat.le_of_ble_eq_true rfl) dL_does_22 ⟨Nat.le_of_ble_eq_true rfl, Nat.le_of_ble_eq_true rfl⟩ (fun E ce q9 H1 locs1 hbd _ _ _ _ _ _ => (hbd.elim (fun h0 => e0 (h0.1)) (fun h0 => e1 (h0.2.1)) : False).elim) (fun _ H locs hP hD hS => ?_)
  have hP : va_P D vwCl [(xo, .inr (6, [.ref xb, .ref xg, .ref xn, .ref xt, .ref xp, .ref xk, .ref xf, .int dy])), (xt, .inr (3, [.ref t1, .ref t2, .int (zz + 1), .int po, .int me, .int ml])), (t1, .inr (1, [.ref r1])), (r1, .inl (z 0, 40, .inl (cSet 40 lt zz i))), (t2, .inr (1, [.ref r2])), (r2, .inl (z 0, 40, .inl ty))] H := hP
  have hD : va_D A [(xo, .inr (6, [.ref xb, .ref xg, .ref xn, .ref xt, .ref xp, .ref xk, .ref xf, .int dy])), (xt, .inr (3, [.ref t1, .ref t2, .int (zz + 1), .int po, .int me, .int ml])), (t1, .inr (1, [.ref r1])), (r1, .inl (z 0, 40, .inl (cSet 40 lt zz i))), (t2, .inr (1, [.ref r2])), (r2, .inl (z 0, 40, .inl ty))] := hD
  refine lv_goto (tgt := 86) hx hb dL_does_25 (by decide) ?_
  exact hw_i hx hb hr hlocks hP hD hS dL_does_86 (rfl) rfl (Nat.le_of_ble_eq_true rfl) (Nat.le_of_ble_eq_true rfl)
set_option maxHeartbeats 4000000 in
set_option maxRecDepth 100000 in
theorem c_L_does_2_0 (l : Launch) (D : va_G) (z : Nat → ClassId) (q : Nat → Nat) (xo : Nat) (xb : Nat) (xg : Nat) (xn : Nat) (xt : Nat) (xp : Nat) (xk : Nat) (xf : Nat) (dy : Int32) (na : Nat) (ia : Nat → Int32) (g1 : Nat) (y1 : Nat) (g2 : Nat) (y2 : Nat) (g3 : Nat) (y3 : Nat) (g4 : Nat) (y4 : Nat) (ct : Nat → Int32) (ti : Nat → Int32) (sh : Nat → Int32) (pr : Nat → Int32) (wt : Int32) (wh : Int32) (t1 : Nat) (r1 : Nat) (t2 : Nat) (r2 : Nat) (lt : Nat → Int32) (ty : Nat → Int32) (zz : Int32) (po : Int32) (me : Int32) (ml : Int32) (zn : Nat) (i : Int32) (x1 : Int32) (x2 : Int32) (sz : Nat) (hzz : zz = nI zn) (hz : zn ≤ 40) (e0 : bW i 1 40 = 0) (hlt : l.stackTraces = false) : HW l yL_does wsL_does ({ frames := 7, cells := 3, slots := 18, locals := 143 } : Room) D z q [.ref xo, .int 2, .int i, .int x1, .int x2] [(xo, .inr (6, [.ref xb, .ref xg, .ref xn, .ref xt, .ref xp, .ref xk, .ref xf, .int dy])), (xn, .inr (4, [.ref na, .ref xg])), (na, .inl (z 1, 26, .inl ia)), (xg, .inr (2, [.ref g1, .ref g2, .ref g3, .ref g4, .int wt, .int wh])), (g1, .inr (1, [.ref y1])), (y1, .inl (z 0, 26, .inl ct)), (g2, .inr (1, [.ref y2])), (y2, .inl (z 0, 26, .inl ti)), (g3, .inr (1, [.ref y3])), (y3, .inl (z 0, 26, .inl sh)), (g4, .inr (1, [.ref y4])), (y4, .inl (z 0, 676, .inl pr)), (xt, .inr (3, [.ref t1, .ref t2, .int zz, .int po, .int me, .int ml])), (t1, .inr (1, [.ref r1])), (r1, .inl (z 0, 40, .inl lt)), (t2, .inr (1, [.ref r2])), (r2, .inl (z 0, 40, .inl ty))] sz [(xo, .inr (6, [.ref xb, .ref xg, .ref xn, .ref xt, .ref xp, .ref xk, .ref xf, .int dy])), (xn, .inr (4, [.ref na, .ref xg])), (na, .inl (z 1, 26, .inl ia)), (xg, .inr (2, [.ref g1, .ref g2, .ref g3, .ref g4, .int wt, .int wh])), (g1, .inr (1, [.ref y1])), (y1, .inl (z 0, 26, .inl ct)), (g2, .inr (1, [.ref y2])), (y2, .inl (z 0, 26, .inl ti)), (g3, .inr (1, [.ref y3])), (y3, .inl (z 0, 26, .inl sh)), (g4, .inr (1, [.ref y4])), (y4, .inl (z 0, 676, .inl pr)), (xt, .inr (3, [.ref t1, .ref t2, .int zz, .int po, .int me, .int ml])), (t1, .inr (1, [.ref r1])), (r1, .inl (z 0, 40, .inl lt)), (t2, .inr (1, [.ref r2])), (r2, .inl (z 0, 40, .inl ty))] (some (.int (-99999))) := by
  refine HW_mk (hh := [(0, 86, 87, 38), (0, 86, 92, 41), (0, 86, 97, 43)]) (cc := cL_does) (maxL := 6) (ret := (some .int)) (by decide) rfl (Nat.le_of_ble_eq_true rfl) ?_
  intro p e s m below meth c A hx hb hr hml hts hown hlocks htab H hP hD hE hS hA ls hl
  have hK := hE.1
  have hown : s.vm.findClass RL = some m.cls := hown
  have hl : lv_has ls 6 [(0, .ref xo), (1, .int 2), (2, .int i), (3, .int x1), (4, .int x2)] := hl
  refine lv_iload_n hx hb dL_does_0 rfl (lv_at hl 1 rfl) ?_
  refine lv_if_ne (tgt := 15) hx hb dL_does_1 (by decide) (fun _ => ?_) (fun c_1 => absurd c_1 (by decide))
  refine lv_iload_n hx hb dL_does_15 rfl (lv_at hl 1 rfl) ?_
  refine lv_iconst (v := 1) hx hb dL_does_16 (by decide) ?_
  refine lv_icmp_ne (tgt := 28) hx hb dL_does_17 (by decide) (fun _ => ?_) (fun c_2 => absurd c_2 (by decide))
  refine lv_iload_n hx hb dL_does_28 rfl (lv_at hl 1 rfl) ?_
  refine lv_iconst (v := 2) hx hb dL_does_29 (by decide) ?_
  refine lv_icmp_ne (tgt := 41) hx hb dL_does_30 (by decide) (fun c_3 => absurd (by decide) c_3) (fun _ => ?_)
  refine lv_aload_n hx hb dL_does_33 rfl (lv_at hl 0 rfl) ?_
  refine lv_iload_n hx hb dL_does_34 rfl (lv_at hl 2 rfl) ?_
  refine txV (As := [.int i]) (rest := []) ⟨hx, hb, hml, hown, hts⟩ (c_X6_drill l D z q xo xb xg xn xt xp xk xf dy na ia g1 y1 g2 y2 g3 y3 g4 y4 ct ti sh pr wt wh t1 r1 t2 r2 lt ty zz po me ml zn i H.size hzz hz hlt) (cwV 1 hts gL_does_X6_drill rfl rfl rfl hd_X6_drill ⟨Nat.le_of_ble_eq_true rfl, Nat.le_of_ble_eq_true rfl⟩) hE hS hA hP hD [0, 1, 2, 3, 4, 5, 6, 7, 8, 9, 10, 11, 12, 13, 14, 15, 16] rfl rfl rfl rfl rfl rfl rfl hl.1 rfl (Nat.le_of_ble_eq_true rfl) dL_does_35 ⟨Nat.le_of_ble_eq_true rfl, Nat.le_of_ble_eq_true rfl⟩ (fun E ce q9 H1 locs1 hbd hP hD hS hce hcv hcl => ?_) (fun hok _ _ _ _ _ => (hok e0).elim)
  have hE9 : E = xA := hbd.2
  subst hE9
  refine vx_catch (own := RL) (name := xA) hown [⟨0, 86, 87, 38⟩] ⟨0, 86, 92, 41⟩ [⟨0, 86, 97, 43⟩] (by rw [htab]; rfl) (fun z hz => (List.mem_cons.mp hz).elim (fun h => by subst h; exact Or.inr ⟨by decide, _, hts (.classLink RL 38 "java/lang/IndexOutOfBoundsException") (List.mem_of_getElem? (i := 1) rfl), hE.2.2.2.2.2.2.1 _ (List.mem_of_getElem? (i := 0) rfl)⟩) (fun hz => nomatch hz)) rfl (by decide) (hts (.classLink RL 41 "java/lang/IllegalArgumentException") (List.mem_of_getElem? (i := 2) rfl)) (va_Nw.use rfl (hE.2.2.2.2.2.1 xA xAm)) hce hcv hcl ?_
  refine lv_astore (lv' := [(5, .ref q9), (0, .ref xo), (1, .int 2), (2, .int i), (3, .int x1), (4, .int x2)]) hx hb dL_does_92 hl (by decide) rfl (fun ls hl => ?_)
  refine lv_ldc (v := (-99999)) hx hb hown (hts (.constant RL 40 (-99999)) (List.mem_of_getElem? (i := 4) rfl)) dL_does_94 ?_
  exact hw_i hx hb hr hlocks hP hD hS dL_does_96 (rfl) rfl (Nat.le_of_ble_eq_true rfl) (Nat.le_of_ble_eq_true rfl)
set_option maxHeartbeats 4000000 in
set_option maxRecDepth 100000 in
theorem c_L_does_2_1 (l : Launch) (D : va_G) (z : Nat → ClassId) (q : Nat → Nat) (xo : Nat) (xb : Nat) (xg : Nat) (xn : Nat) (xt : Nat) (xp : Nat) (xk : Nat) (xf : Nat) (dy : Int32) (na : Nat) (ia : Nat → Int32) (g1 : Nat) (y1 : Nat) (g2 : Nat) (y2 : Nat) (g3 : Nat) (y3 : Nat) (g4 : Nat) (y4 : Nat) (ct : Nat → Int32) (ti : Nat → Int32) (sh : Nat → Int32) (pr : Nat → Int32) (wt : Int32) (wh : Int32) (t1 : Nat) (r1 : Nat) (t2 : Nat) (r2 : Nat) (lt : Nat → Int32) (ty : Nat → Int32) (zz : Int32) (po : Int32) (me : Int32) (ml : Int32) (zn : Nat) (i : Int32) (x1 : Int32) (x2 : Int32) (sz : Nat) (hzz : zz = nI zn) (hz : zn ≤ 40) (e0 : ¬ bW i 1 40 = 0) (hlt : l.stackTraces = false) : HW l yL_does wsL_does ({ frames := 7, cells := 3, slots := 18, locals := 143 } : Room) D z q [.ref xo, .int 2, .int i, .int x1, .int x2] [(xo, .inr (6, [.ref xb, .ref xg, .ref xn, .ref xt, .ref xp, .ref xk, .ref xf, .int dy])), (xn, .inr (4, [.ref na, .ref xg])), (na, .inl (z 1, 26, .inl ia)), (xg, .inr (2, [.ref g1, .ref g2, .ref g3, .ref g4, .int wt, .int wh])), (g1, .inr (1, [.ref y1])), (y1, .inl (z 0, 26, .inl ct)), (g2, .inr (1, [.ref y2])), (y2, .inl (z 0, 26, .inl ti)), (g3, .inr (1, [.ref y3])), (y3, .inl (z 0, 26, .inl sh)), (g4, .inr (1, [.ref y4])), (y4, .inl (z 0, 676, .inl pr)), (xt, .inr (3, [.ref t1, .ref t2, .int zz, .int po, .int me, .int ml])), (t1, .inr (1, [.ref r1])), (r1, .inl (z 0, 40, .inl lt)), (t2, .inr (1, [.ref r2])), (r2, .inl (z 0, 40, .inl ty))] sz [(xo, .inr (6, [.ref xb, .ref xg, .ref xn, .ref xt, .ref xp, .ref xk, .ref xf, .int dy])), (xn, .inr (4, [.ref na, .ref xg])), (na, .inl (z 1, 26, .inl ia)), (xg, .inr (2, [.ref g1, .ref g2, .ref g3, .ref g4, .int wt, .int wh])), (g1, .inr (1, [.ref y1])), (y1, .inl (z 0, 26, .inl ct)), (g2, .inr (1, [.ref y2])), (y2, .inl (z 0, 26, .inl ti)), (g3, .inr (1, [.ref y3])), (y3, .inl (z 0, 26, .inl sh)), (g4, .inr (1, [.ref y4])), (y4, .inl (z 0, 676, .inl pr)), (xt, .inr (3, [.ref t1, .ref t2, .int (nI (zn + dN i zn)), .int po, .int me, .int ml])), (t1, .inr (1, [.ref r1])), (r1, .inl (z 0, 40, .inl (dT ia ti sh pr lt zn (dN i zn)))), (t2, .inr (1, [.ref r2])), (r2, .inl (z 0, 40, .inl ty))] (some (.int (nI (dN i zn)))) := by
  refine HW_mk (hh := [(0, 86, 87, 38), (0, 86, 92, 41), (0, 86, 97, 43)]) (cc := cL_does) (maxL := 6) (ret := (some .int)) (by decide) rfl (Nat.le_of_ble_eq_true rfl) ?_
  intro p e s m below meth c A hx hb hr hml hts hown hlocks htab H hP hD hE hS hA ls hl
  have hK := hE.1
  have hown : s.vm.findClass RL = some m.cls := hown
  have hl : lv_has ls 6 [(0, .ref xo), (1, .int 2), (2, .int i), (3, .int x1), (4, .int x2)] := hl
  refine lv_iload_n hx hb dL_does_0 rfl (lv_at hl 1 rfl) ?_
  refine lv_if_ne (tgt := 15) hx hb dL_does_1 (by decide) (fun _ => ?_) (fun c_1 => absurd c_1 (by decide))
  refine lv_iload_n hx hb dL_does_15 rfl (lv_at hl 1 rfl) ?_
  refine lv_iconst (v := 1) hx hb dL_does_16 (by decide) ?_
  refine lv_icmp_ne (tgt := 28) hx hb dL_does_17 (by decide) (fun _ => ?_) (fun c_2 => absurd c_2 (by decide))
  refine lv_iload_n hx hb dL_does_28 rfl (lv_at hl 1 rfl) ?_
  refine lv_iconst (v := 2) hx hb dL_does_29 (by decide) ?_
  refine lv_icmp_ne (tgt := 41) hx hb dL_does_30 (by decide) (fun c_3 => absurd (by decide) c_3) (fun _ => ?_)
  refine lv_aload_n hx hb dL_does_33 rfl (lv_at hl 0 rfl) ?_
  refine lv_iload_n hx hb dL_does_34 rfl (lv_at hl 2 rfl) ?_
  refine txV (As := [.int i]) (rest := []) ⟨hx, hb, hml, hown, hts⟩ (c_X6_drill l D z q xo xb xg xn xt xp xk xf dy na ia g1 y1 g2 y2 g3 y3 g4 y4 ct ti sh pr wt wh t1 r1 t2 r2 lt ty zz po me ml zn i H.size hzz hz hlt) (cwV 1 hts gL_does_X6_drill rfl rfl rfl hd_X6_drill ⟨Nat.le_of_ble_eq_true rfl, Nat.le_of_ble_eq_true rfl⟩) hE hS hA hP hD [0, 1, 2, 3, 4, 5, 6, 7, 8, 9, 10, 11, 12, 13, 14, 15, 16] rfl rfl rfl rfl rfl rfl rfl hl.1 rfl (Nat.le_of_ble_eq_true rfl) dL_does_35 ⟨Nat.le_of_ble_eq_true rfl, Nat.le_of_ble_eq_true rfl⟩ (fun E ce q9 H1 locs1 hbd _ _ _ _ _ _ => (e0 (hbd.1) : False).elim) (fun _ H locs hP hD hS => ?_)
  have hP : va_P D vwCl [(xo, .inr (6, [.ref xb, .ref xg, .ref xn, .ref xt, .ref xp, .ref xk, .ref xf, .int dy])), (xn, .inr (4, [.ref na, .ref xg])), (na, .inl (z 1, 26, .inl ia)), (xg, .inr (2, [.ref g1, .ref g2, .ref g3, .ref g4, .int wt, .int wh])), (g1, .inr (1, [.ref y1])), (y1, .inl (z 0, 26, .inl ct)), (g2, .inr (1, [.ref y2])), (y2, .inl (z 0, 26, .inl ti)), (g3, .inr (1, [.ref y3])), (y3, .inl (z 0, 26, .inl sh)), (g4, .inr (1, [.ref y4])), (y4, .inl (z 0, 676, .inl pr)), (xt, .inr (3, [.ref t1, .ref t2, .int (nI (zn + dN i zn)), .int po, .int me, .int ml])), (t1, .inr (1, [.ref r1])), (r1, .inl (z 0, 40, .inl (dT ia ti sh pr lt zn (dN i zn)))), (t2, .inr (1, [.ref r2])), (r2, .inl (z 0, 40, .inl ty))] H := hP
  have hD : va_D A [(xo, .inr (6, [.ref xb, .ref xg, .ref xn, .ref xt, .ref xp, .ref xk, .ref xf, .int dy])), (xn, .inr (4, [.ref na, .ref xg])), (na, .inl (z 1, 26, .inl ia)), (xg, .inr (2, [.ref g1, .ref g2, .ref g3, .ref g4, .int wt, .int wh])), (g1, .inr (1, [.ref y1])), (y1, .inl (z 0, 26, .inl ct)), (g2, .inr (1, [.ref y2])), (y2, .inl (z 0, 26, .inl ti)), (g3, .inr (1, [.ref y3])), (y3, .inl (z 0, 26, .inl sh)), (g4, .inr (1, [.ref y4])), (y4, .inl (z 0, 676, .inl pr)), (xt, .inr (3, [.ref t1, .ref t2, .int (nI (zn + dN i zn)), .int po, .int me, .int ml])), (t1, .inr (1, [.ref r1])), (r1, .inl (z 0, 40, .inl (dT ia ti sh pr lt zn (dN i zn)))), (t2, .inr (1, [.ref r2])), (r2, .inl (z 0, 40, .inl ty))] := hD
  refine lv_goto (tgt := 86) hx hb dL_does_38 (by decide) ?_
  exact hw_i hx hb hr hlocks hP hD hS dL_does_86 (rfl) rfl (Nat.le_of_ble_eq_true rfl) (Nat.le_of_ble_eq_true rfl)
set_option maxHeartbeats 4000000 in
set_option maxRecDepth 100000 in
theorem c_L_does_3_0 (l : Launch) (D : va_G) (z : Nat → ClassId) (q : Nat → Nat) (xo : Nat) (xb : Nat) (xg : Nat) (xn : Nat) (xt : Nat) (xp : Nat) (xk : Nat) (xf : Nat) (dy : Int32) (b1 : Nat) (w1 : Nat) (b2 : Nat) (w2 : Nat) (pl : Nat → Int32) (lo : Nat → Int32) (g1 : Nat) (y1 : Nat) (g2 : Nat) (y2 : Nat) (g3 : Nat) (y3 : Nat) (g4 : Nat) (y4 : Nat) (ct : Nat → Int32) (ti : Nat → Int32) (sh : Nat → Int32) (pr : Nat → Int32) (wt : Int32) (wh : Int32) (t1 : Nat) (r1 : Nat) (t2 : Nat) (r2 : Nat) (lt : Nat → Int32) (ty : Nat → Int32) (zz : Int32) (po : Int32) (me : Int32) (ml : Int32) (ka : Nat) (ek : Nat → Int32) (fa : Nat) (ef : Nat → Int32) (du : Int32) (kd : Int32) (ct1 : Nat → Int32) (ti1 : Nat → Int32) (sh1 : Nat → Int32) (pr1 : Nat → Int32) (ty1 : Nat → Int32) (ek1 : Nat → Int32) (ef1 : Nat → Int32) (i : Int32) (mo : Int32) (x1 : Int32) (sz : Nat) (hdu : du = tAt lt zz po) (hkd : kd = kKind pl lo lt ty zz po i du) (hct : ct1 = cSet 26 ct du (cAt 26 ct du + 1)) (hti : ti1 = cSet 26 ti du (fAged (cAt 26 ti du) mo)) (hsh : sh1 = cSet 26 sh du (fShr (cAt 26 sh du) (if kd = -1 then 0 else 1))) (hpr : pr1 = kPr pr lt zz po du mo) (hty : ty1 = cSet 40 ty po i) (hek : ek1 = kErr ek 5 kd kd) (hef : ef1 = kErr ef 8 kd (bFin pl du)) (e0 : bW i 0 25 = 0) (hlt : l.stackTraces = false) : HW l yL_does wsL_does ({ frames := 8, cells := 3, slots := 18, locals := 164 } : Room) D z q [.ref xo, .int 3, .int i, .int mo, .int x1] [(xo, .inr (6, [.ref xb, .ref xg, .ref xn, .ref xt, .ref xp, .ref xk, .ref xf, .int dy])), (xb, .inr (0, [.ref b1, .ref b2])), (b1, .inr (1, [.ref w1])), (w1, .inl (z 0, 26, .inl pl)), (b2, .inr (1, [.ref w2])), (w2, .inl (z 0, 30, .inl lo)), (xg, .inr (2, [.ref g1, .ref g2, .ref g3, .ref g4, .int wt, .int wh])), (g1, .inr (1, [.ref y1])), (y1, .inl (z 0, 26, .inl ct)), (g2, .inr (1, [.ref y2])), (y2, .inl (z 0, 26, .inl ti)), (g3, .inr (1, [.ref y3])), (y3, .inl (z 0, 26, .inl sh)), (g4, .inr (1, [.ref y4])), (y4, .inl (z 0, 676, .inl pr)), (xt, .inr (3, [.ref t1, .ref t2, .int zz, .int po, .int me, .int ml])), (t1, .inr (1, [.ref r1])), (r1, .inl (z 0, 40, .inl lt)), (t2, .inr (1, [.ref r2])), (r2, .inl (z 0, 40, .inl ty)), (xk, .inr (1, [.ref ka])), (ka, .inl (z 0, 5, .inl ek)), (xf, .inr (1, [.ref fa])), (fa, .inl (z 0, 8, .inl ef))] sz [(xo, .inr (6, [.ref xb, .ref xg, .ref xn, .ref xt, .ref xp, .ref xk, .ref xf, .int dy])), (xb, .inr (0, [.ref b1, .ref b2])), (b1, .inr (1, [.ref w1])), (w1, .inl (z 0, 26, .inl pl)), (b2, .inr (1, [.ref w2])), (w2, .inl (z 0, 30, .inl lo)), (xg, .inr (2, [.ref g1, .ref g2, .ref g3, .ref g4, .int wt, .int wh])), (g1, .inr (1, [.ref y1])), (y1, .inl (z 0, 26, .inl ct)), (g2, .inr (1, [.ref y2])), (y2, .inl (z 0, 26, .inl ti)), (g3, .inr (1, [.ref y3])), (y3, .inl (z 0, 26, .inl sh)), (g4, .inr (1, [.ref y4])), (y4, .inl (z 0, 676, .inl pr)), (xt, .inr (3, [.ref t1, .ref t2, .int zz, .int po, .int me, .int ml])), (t1, .inr (1, [.ref r1])), (r1, .inl (z 0, 40, .inl lt)), (t2, .inr (1, [.ref r2])), (r2, .inl (z 0, 40, .inl ty)), (xk, .inr (1, [.ref ka])), (ka, .inl (z 0, 5, .inl ek)), (xf, .inr (1, [.ref fa])), (fa, .inl (z 0, 8, .inl ef))] (some (.int (-99999))) := by
  refine HW_mk (hh := [(0, 86, 87, 38), (0, 86, 92, 41), (0, 86, 97, 43)]) (cc := cL_does) (maxL := 6) (ret := (some .int)) (by decide) rfl (Nat.le_of_ble_eq_true rfl) ?_
  intro p e s m below meth c A hx hb hr hml hts hown hlocks htab H hP hD hE hS hA ls hl
  have hK := hE.1
  have hown : s.vm.findClass RL = some m.cls := hown
  have hl : lv_has ls 6 [(0, .ref xo), (1, .int 3), (2, .int i), (3, .int mo), (4, .int x1)] := hl
  refine lv_iload_n hx hb dL_does_0 rfl (lv_at hl 1 rfl) ?_
  refine lv_if_ne (tgt := 15) hx hb dL_does_1 (by decide) (fun _ => ?_) (fun c_1 => absurd c_1 (by decide))
  refine lv_iload_n hx hb dL_does_15 rfl (lv_at hl 1 rfl) ?_
  refine lv_iconst (v := 1) hx hb dL_does_16 (by decide) ?_
  refine lv_icmp_ne (tgt := 28) hx hb dL_does_17 (by decide) (fun _ => ?_) (fun c_2 => absurd c_2 (by decide))
  refine lv_iload_n hx hb dL_does_28 rfl (lv_at hl 1 rfl) ?_
  refine lv_iconst (v := 2) hx hb dL_does_29 (by decide) ?_
  refine lv_icmp_ne (tgt := 41) hx hb dL_does_30 (by decide) (fun _ => ?_) (fun c_3 => absurd c_3 (by decide))
  refine lv_iload_n hx hb dL_does_41 rfl (lv_at hl 1 rfl) ?_
  refine lv_iconst (v := 3) hx hb dL_does_42 (by decide) ?_
  refine lv_icmp_ne (tgt := 55) hx hb dL_does_43 (by decide) (fun c_4 => absurd (by decide) c_4) (fun _ => ?_)
  refine lv_aload_n hx hb dL_does_46 rfl (lv_at hl 0 rfl) ?_
  refine lv_iload_n hx hb dL_does_47 rfl (lv_at hl 2 rfl) ?_
  refine lv_iload_n hx hb dL_does_48 rfl (lv_at hl 3 rfl) ?_
  refine txV (As := [.int i, .int mo]) (rest := []) ⟨hx, hb, hml, hown, hts⟩ (c_X6_strokeA l D z q xo xb xg xn xt xp xk xf dy b1 w1 b2 w2 pl lo g1 y1 g2 y2 g3 y3 g4 y4 ct ti sh pr wt wh t1 r1 t2 r2 lt ty zz po me ml ka ek fa ef i mo du kd ct1 ti1 sh1 pr1 ty1 ek1 ef1 H.size hdu hkd hct hti hsh hpr hty hek hef hlt) (cwV 2 hts gL_does_X6_stroke rfl rfl rfl hd_X6_stroke ⟨Nat.le_of_ble_eq_true rfl, Nat.le_of_ble_eq_true rfl⟩) hE hS hA hP hD [0, 1, 2, 3, 4, 5, 6, 7, 8, 9, 10, 11, 12, 13, 14, 15, 16, 17, 18, 19, 20, 21, 22, 23] rfl rfl rfl rfl rfl rfl rfl hl.1 rfl (Nat.le_of_ble_eq_true rfl) dL_does_49 ⟨Nat.le_of_ble_eq_true rfl, Nat.le_of_ble_eq_true rfl⟩ (fun E ce q9 H1 locs1 hbd hP hD hS hce hcv hcl => ?_) (fun hok _ _ _ _ _ => (hok.1 e0).elim)
  have hE9 : E = xI := hbd.elim (fun h0 => h0.2) (fun h0 => h0.elim (fun h1 => (h1.1 e0).elim) (fun h1 => (h1.1 e0).elim))
  subst hE9
  refine vx_catch (own := RL) (name := xI) hown [] ⟨0, 86, 87, 38⟩ [⟨0, 86, 92, 41⟩, ⟨0, 86, 97, 43⟩] (by rw [htab]; rfl) (fun z hz => nomatch hz) rfl (by decide) (hts (.classLink RL 38 "java/lang/IndexOutOfBoundsException") (List.mem_of_getElem? (i := 1) rfl)) (va_Nw.use rfl (hE.2.2.2.2.2.1 xI xIm)) hce hcv hcl ?_
  refine lv_astore (lv' := [(5, .ref q9), (0, .ref xo), (1, .int 3), (2, .int i), (3, .int mo), (4, .int x1)]) hx hb dL_does_87 hl (by decide) rfl (fun ls hl => ?_)
  refine lv_ldc (v := (-99999)) hx hb hown (hts (.constant RL 40 (-99999)) (List.mem_of_getElem? (i := 4) rfl)) dL_does_89 ?_
  exact hw_i hx hb hr hlocks hP hD hS dL_does_91 (rfl) rfl (Nat.le_of_ble_eq_true rfl) (Nat.le_of_ble_eq_true rfl)
set_option maxHeartbeats 4000000 in
set_option maxRecDepth 100000 in
theorem c_L_does_3_1 (l : Launch) (D : va_G) (z : Nat → ClassId) (q : Nat → Nat) (xo : Nat) (xb : Nat) (xg : Nat) (xn : Nat) (xt : Nat) (xp : Nat) (xk : Nat) (xf : Nat) (dy : Int32) (b1 : Nat) (w1 : Nat) (b2 : Nat) (w2 : Nat) (pl : Nat → Int32) (lo : Nat → Int32) (g1 : Nat) (y1 : Nat) (g2 : Nat) (y2 : Nat) (g3 : Nat) (y3 : Nat) (g4 : Nat) (y4 : Nat) (ct : Nat → Int32) (ti : Nat → Int32) (sh : Nat → Int32) (pr : Nat → Int32) (wt : Int32) (wh : Int32) (t1 : Nat) (r1 : Nat) (t2 : Nat) (r2 : Nat) (lt : Nat → Int32) (ty : Nat → Int32) (zz : Int32) (po : Int32) (me : Int32) (ml : Int32) (ka : Nat) (ek : Nat → Int32) (fa : Nat) (ef : Nat → Int32) (du : Int32) (kd : Int32) (ct1 : Nat → Int32) (ti1 : Nat → Int32) (sh1 : Nat → Int32) (pr1 : Nat → Int32) (ty1 : Nat → Int32) (ek1 : Nat → Int32) (ef1 : Nat → Int32) (i : Int32) (mo : Int32) (x1 : Int32) (sz : Nat) (hdu : du = tAt lt zz po) (hkd : kd = kKind pl lo lt ty zz po i du) (hct : ct1 = cSet 26 ct du (cAt 26 ct du + 1)) (hti : ti1 = cSet 26 ti du (fAged (cAt 26 ti du) mo)) (hsh : sh1 = cSet 26 sh du (fShr (cAt 26 sh du) (if kd = -1 then 0 else 1))) (hpr : pr1 = kPr pr lt zz po du mo) (hty : ty1 = cSet 40 ty po i) (hek : ek1 = kErr ek 5 kd kd) (hef : ef1 = kErr ef 8 kd (bFin pl du)) (e0 : ¬ bW i 0 25 = 0) (e1 : bW mo 1 5000 = 0) (hlt : l.stackTraces = false) : HW l yL_does wsL_does ({ frames := 8, cells := 3, slots := 18, locals := 164 } : Room) D z q [.ref xo, .int 3, .int i, .int mo, .int x1] [(xo, .inr (6, [.ref xb, .ref xg, .ref xn, .ref xt, .ref xp, .ref xk, .ref xf, .int dy])), (xb, .inr (0, [.ref b1, .ref b2])), (b1, .inr (1, [.ref w1])), (w1, .inl (z 0, 26, .inl pl)), (b2, .inr (1, [.ref w2])), (w2, .inl (z 0, 30, .inl lo)), (xg, .inr (2, [.ref g1, .ref g2, .ref g3, .ref g4, .int wt, .int wh])), (g1, .inr (1, [.ref y1])), (y1, .inl (z 0, 26, .inl ct)), (g2, .inr (1, [.ref y2])), (y2, .inl (z 0, 26, .inl ti)), (g3, .inr (1, [.ref y3])), (y3, .inl (z 0, 26, .inl sh)), (g4, .inr (1, [.ref y4])), (y4, .inl (z 0, 676, .inl pr)), (xt, .inr (3, [.ref t1, .ref t2, .int zz, .int po, .int me, .int ml])), (t1, .inr (1, [.ref r1])), (r1, .inl (z 0, 40, .inl lt)), (t2, .inr (1, [.ref r2])), (r2, .inl (z 0, 40, .inl ty)), (xk, .inr (1, [.ref ka])), (ka, .inl (z 0, 5, .inl ek)), (xf, .inr (1, [.ref fa])), (fa, .inl (z 0, 8, .inl ef))] sz [(xo, .inr (6, [.ref xb, .ref xg, .ref xn, .ref xt, .ref xp, .ref xk, .ref xf, .int dy])), (xb, .inr (0, [.ref b1, .ref b2])), (b1, .inr (1, [.ref w1])), (w1, .inl (z 0, 26, .inl pl)), (b2, .inr (1, [.ref w2])), (w2, .inl (z 0, 30, .inl lo)), (xg, .inr (2, [.ref g1, .ref g2, .ref g3, .ref g4, .int wt, .int wh])), (g1, .inr (1, [.ref y1])), (y1, .inl (z 0, 26, .inl ct)), (g2, .inr (1, [.ref y2])), (y2, .inl (z 0, 26, .inl ti)), (g3, .inr (1, [.ref y3])), (y3, .inl (z 0, 26, .inl sh)), (g4, .inr (1, [.ref y4])), (y4, .inl (z 0, 676, .inl pr)), (xt, .inr (3, [.ref t1, .ref t2, .int zz, .int po, .int me, .int ml])), (t1, .inr (1, [.ref r1])), (r1, .inl (z 0, 40, .inl lt)), (t2, .inr (1, [.ref r2])), (r2, .inl (z 0, 40, .inl ty)), (xk, .inr (1, [.ref ka])), (ka, .inl (z 0, 5, .inl ek)), (xf, .inr (1, [.ref fa])), (fa, .inl (z 0, 8, .inl ef))] (some (.int (-99999))) := by
  refine HW_mk (hh := [(0, 86, 87, 38), (0, 86, 92, 41), (0, 86, 97, 43)]) (cc := cL_does) (maxL := 6) (ret := (some .int)) (by decide) rfl (Nat.le_of_ble_eq_true rfl) ?_
  intro p e s m below meth c A hx hb hr hml hts hown hlocks htab H hP hD hE hS hA ls hl
  have hK := hE.1
  have hown : s.vm.findClass RL = some m.cls := hown
  have hl : lv_has ls 6 [(0, .ref xo), (1, .int 3), (2, .int i), (3, .int mo), (4, .int x1)] := hl
  refine lv_iload_n hx hb dL_does_0 rfl (lv_at hl 1 rfl) ?_
  refine lv_if_ne (tgt := 15) hx hb dL_does_1 (by decide) (fun _ => ?_) (fun c_1 => absurd c_1 (by decide))
  refine lv_iload_n hx hb dL_does_15 rfl (lv_at hl 1 rfl) ?_
  refine lv_iconst (v := 1) hx hb dL_does_16 (by decide) ?_
  refine lv_icmp_ne (tgt := 28) hx hb dL_does_17 (by decide) (fun _ => ?_) (fun c_2 => absurd c_2 (by decide))
  refine lv_iload_n hx hb dL_does_28 rfl (lv_at hl 1 rfl) ?_
  refine lv_iconst (v := 2) hx hb dL_does_29 (by decide) ?_
  refine lv_icmp_ne (tgt := 41) hx hb dL_does_30 (by decide) (fun _ => ?_) (fun c_3 => absurd c_3 (by decide))
  refine lv_iload_n hx hb dL_does_41 rfl (lv_at hl 1 rfl) ?_
  refine lv_iconst (v := 3) hx hb dL_does_42 (by decide) ?_
  refine lv_icmp_ne (tgt := 55) hx hb dL_does_43 (by decide) (fun c_4 => absurd (by decide) c_4) (fun _ => ?_)
  refine lv_aload_n hx hb dL_does_46 rfl (lv_at hl 0 rfl) ?_
  refine lv_iload_n hx hb dL_does_47 rfl (lv_at hl 2 rfl) ?_
  refine lv_iload_n hx hb dL_does_48 rfl (lv_at hl 3 rfl) ?_
  refine txV (As := [.int i, .int mo]) (rest := []) ⟨hx, hb, hml, hown, hts⟩ (c_X6_strokeA l D z q xo xb xg xn xt xp xk xf dy b1 w1 b2 w2 pl lo g1 y1 g2 y2 g3 y3 g4 y4 ct ti sh pr wt wh t1 r1 t2 r2 lt ty zz po me ml ka ek fa ef i mo du kd ct1 ti1 sh1 pr1 ty1 ek1 ef1 H.size hdu hkd hct hti hsh hpr hty hek hef hlt) (cwV 2 hts gL_does_X6_stroke rfl rfl rfl hd_X6_stroke ⟨Nat.le_of_ble_eq_true rfl, Nat.le_of_ble_eq_true rfl⟩) hE hS hA hP hD [0, 1, 2, 3, 4, 5, 6, 7, 8, 9, 10, 11, 12, 13, 14, 15, 16, 17, 18, 19, 20, 21, 22, 23] rfl rfl rfl rfl rfl rfl rfl hl.1 rfl (Nat.le_of_ble_eq_true rfl) dL_does_49 ⟨Nat.le_of_ble_eq_true rfl, Nat.le_of_ble_eq_true rfl⟩ (fun E ce q9 H1 locs1 hbd hP hD hS hce hcv hcl => ?_) (fun hok _ _ _ _ _ => (hok.2.1 e1).elim)
  have hE9 : E = xA := hbd.elim (fun h0 => absurd (h0.1) e0) (fun h0 => h0.elim (fun h1 => h1.2.2) (fun h1 => (h1.2.1 e1).elim))
  subst hE9
  refine vx_catch (own := RL) (name := xA) hown [⟨0, 86, 87, 38⟩] ⟨0, 86, 92, 41⟩ [⟨0, 86, 97, 43⟩] (by rw [htab]; rfl) (fun z hz => (List.mem_cons.mp hz).elim (fun h => by subst h; exact Or.inr ⟨by decide, _, hts (.classLink RL 38 "java/lang/IndexOutOfBoundsException") (List.mem_of_getElem? (i := 1) rfl), hE.2.2.2.2.2.2.1 _ (List.mem_of_getElem? (i := 0) rfl)⟩) (fun hz => nomatch hz)) rfl (by decide) (hts (.classLink RL 41 "java/lang/IllegalArgumentException") (List.mem_of_getElem? (i := 2) rfl)) (va_Nw.use rfl (hE.2.2.2.2.2.1 xA xAm)) hce hcv hcl ?_
  refine lv_astore (lv' := [(5, .ref q9), (0, .ref xo), (1, .int 3), (2, .int i), (3, .int mo), (4, .int x1)]) hx hb dL_does_92 hl (by decide) rfl (fun ls hl => ?_)
  refine lv_ldc (v := (-99999)) hx hb hown (hts (.constant RL 40 (-99999)) (List.mem_of_getElem? (i := 4) rfl)) dL_does_94 ?_
  exact hw_i hx hb hr hlocks hP hD hS dL_does_96 (rfl) rfl (Nat.le_of_ble_eq_true rfl) (Nat.le_of_ble_eq_true rfl)
set_option maxHeartbeats 4000000 in
set_option maxRecDepth 100000 in
theorem c_L_does_3_2 (l : Launch) (D : va_G) (z : Nat → ClassId) (q : Nat → Nat) (xo : Nat) (xb : Nat) (xg : Nat) (xn : Nat) (xt : Nat) (xp : Nat) (xk : Nat) (xf : Nat) (dy : Int32) (b1 : Nat) (w1 : Nat) (b2 : Nat) (w2 : Nat) (pl : Nat → Int32) (lo : Nat → Int32) (g1 : Nat) (y1 : Nat) (g2 : Nat) (y2 : Nat) (g3 : Nat) (y3 : Nat) (g4 : Nat) (y4 : Nat) (ct : Nat → Int32) (ti : Nat → Int32) (sh : Nat → Int32) (pr : Nat → Int32) (wt : Int32) (wh : Int32) (t1 : Nat) (r1 : Nat) (t2 : Nat) (r2 : Nat) (lt : Nat → Int32) (ty : Nat → Int32) (zz : Int32) (po : Int32) (me : Int32) (ml : Int32) (ka : Nat) (ek : Nat → Int32) (fa : Nat) (ef : Nat → Int32) (du : Int32) (kd : Int32) (ct1 : Nat → Int32) (ti1 : Nat → Int32) (sh1 : Nat → Int32) (pr1 : Nat → Int32) (ty1 : Nat → Int32) (ek1 : Nat → Int32) (ef1 : Nat → Int32) (i : Int32) (mo : Int32) (x1 : Int32) (sz : Nat) (hdu : du = tAt lt zz po) (hkd : kd = kKind pl lo lt ty zz po i du) (hct : ct1 = cSet 26 ct du (cAt 26 ct du + 1)) (hti : ti1 = cSet 26 ti du (fAged (cAt 26 ti du) mo)) (hsh : sh1 = cSet 26 sh du (fShr (cAt 26 sh du) (if kd = -1 then 0 else 1))) (hpr : pr1 = kPr pr lt zz po du mo) (hty : ty1 = cSet 40 ty po i) (hek : ek1 = kErr ek 5 kd kd) (hef : ef1 = kErr ef 8 kd (bFin pl du)) (e0 : ¬ bW i 0 25 = 0) (e1 : ¬ bW mo 1 5000 = 0) (e2 : tAt lt zz po = -1) (hlt : l.stackTraces = false) : HW l yL_does wsL_does ({ frames := 8, cells := 3, slots := 18, locals := 164 } : Room) D z q [.ref xo, .int 3, .int i, .int mo, .int x1] [(xo, .inr (6, [.ref xb, .ref xg, .ref xn, .ref xt, .ref xp, .ref xk, .ref xf, .int dy])), (xb, .inr (0, [.ref b1, .ref b2])), (b1, .inr (1, [.ref w1])), (w1, .inl (z 0, 26, .inl pl)), (b2, .inr (1, [.ref w2])), (w2, .inl (z 0, 30, .inl lo)), (xg, .inr (2, [.ref g1, .ref g2, .ref g3, .ref g4, .int wt, .int wh])), (g1, .inr (1, [.ref y1])), (y1, .inl (z 0, 26, .inl ct)), (g2, .inr (1, [.ref y2])), (y2, .inl (z 0, 26, .inl ti)), (g3, .inr (1, [.ref y3])), (y3, .inl (z 0, 26, .inl sh)), (g4, .inr (1, [.ref y4])), (y4, .inl (z 0, 676, .inl pr)), (xt, .inr (3, [.ref t1, .ref t2, .int zz, .int po, .int me, .int ml])), (t1, .inr (1, [.ref r1])), (r1, .inl (z 0, 40, .inl lt)), (t2, .inr (1, [.ref r2])), (r2, .inl (z 0, 40, .inl ty)), (xk, .inr (1, [.ref ka])), (ka, .inl (z 0, 5, .inl ek)), (xf, .inr (1, [.ref fa])), (fa, .inl (z 0, 8, .inl ef))] sz [(xo, .inr (6, [.ref xb, .ref xg, .ref xn, .ref xt, .ref xp, .ref xk, .ref xf, .int dy])), (xb, .inr (0, [.ref b1, .ref b2])), (b1, .inr (1, [.ref w1])), (w1, .inl (z 0, 26, .inl pl)), (b2, .inr (1, [.ref w2])), (w2, .inl (z 0, 30, .inl lo)), (xg, .inr (2, [.ref g1, .ref g2, .ref g3, .ref g4, .int wt, .int wh])), (g1, .inr (1, [.ref y1])), (y1, .inl (z 0, 26, .inl ct)), (g2, .inr (1, [.ref y2])), (y2, .inl (z 0, 26, .inl ti)), (g3, .inr (1, [.ref y3])), (y3, .inl (z 0, 26, .inl sh)), (g4, .inr (1, [.ref y4])), (y4, .inl (z 0, 676, .inl pr)), (xt, .inr (3, [.ref t1, .ref t2, .int zz, .int po, .int me, .int ml])), (t1, .inr (1, [.ref r1])), (r1, .inl (z 0, 40, .inl lt)), (t2, .inr (1, [.ref r2])), (r2, .inl (z 0, 40, .inl ty)), (xk, .inr (1, [.ref ka])), (ka, .inl (z 0, 5, .inl ek)), (xf, .inr (1, [.ref fa])), (fa, .inl (z 0, 8, .inl ef))] (some (.int (-99999))) := by
  refine HW_mk (hh := [(0, 86, 87, 38), (0, 86, 92, 41), (0, 86, 97, 43)]) (cc := cL_does) (maxL := 6) (ret := (some .int)) (by decide) rfl (Nat.le_of_ble_eq_true rfl) ?_
  intro p e s m below meth c A hx hb hr hml hts hown hlocks htab H hP hD hE hS hA ls hl
  have hK := hE.1
  have hown : s.vm.findClass RL = some m.cls := hown
  have hl : lv_has ls 6 [(0, .ref xo), (1, .int 3), (2, .int i), (3, .int mo), (4, .int x1)] := hl
  refine lv_iload_n hx hb dL_does_0 rfl (lv_at hl 1 rfl) ?_
  refine lv_if_ne (tgt := 15) hx hb dL_does_1 (by decide) (fun _ => ?_) (fun c_1 => absurd c_1 (by decide))
  refine lv_iload_n hx hb dL_does_15 rfl (lv_at hl 1 rfl) ?_
  refine lv_iconst (v := 1) hx hb dL_does_16 (by decide) ?_
  refine lv_icmp_ne (tgt := 28) hx hb dL_does_17 (by decide) (fun _ => ?_) (fun c_2 => absurd c_2 (by decide))
  refine lv_iload_n hx hb dL_does_28 rfl (lv_at hl 1 rfl) ?_
  refine lv_iconst (v := 2) hx hb dL_does_29 (by decide) ?_
  refine lv_icmp_ne (tgt := 41) hx hb dL_does_30 (by decide) (fun _ => ?_) (fun c_3 => absurd c_3 (by decide))
  refine lv_iload_n hx hb dL_does_41 rfl (lv_at hl 1 rfl) ?_
  refine lv_iconst (v := 3) hx hb dL_does_42 (by decide) ?_
  refine lv_icmp_ne (tgt := 55) hx hb dL_does_43 (by decide) (fun c_4 => absurd (by decide) c_4) (fun _ => ?_)
  refine lv_aload_n hx hb dL_does_46 rfl (lv_at hl 0 rfl) ?_
  refine lv_iload_n hx hb dL_does_47 rfl (lv_at hl 2 rfl) ?_
  refine lv_iload_n hx hb dL_does_48 rfl (lv_at hl 3 rfl) ?_
  refine txV (As := [.int i, .int mo]) (rest := []) ⟨hx, hb, hml, hown, hts⟩ (c_X6_strokeA l D z q xo xb xg xn xt xp xk xf dy b1 w1 b2 w2 pl lo g1 y1 g2 y2 g3 y3 g4 y4 ct ti sh pr wt wh t1 r1 t2 r2 lt ty zz po me ml ka ek fa ef i mo du kd ct1 ti1 sh1 pr1 ty1 ek1 ef1 H.size hdu hkd hct hti hsh hpr hty hek hef hlt) (cwV 2 hts gL_does_X6_stroke rfl rfl rfl hd_X6_stroke ⟨Nat.le_of_ble_eq_true rfl, Nat.le_of_ble_eq_true rfl⟩) hE hS hA hP hD [0, 1, 2, 3, 4, 5, 6, 7, 8, 9, 10, 11, 12, 13, 14, 15, 16, 17, 18, 19, 20, 21, 22, 23] rfl rfl rfl rfl rfl rfl rfl hl.1 rfl (Nat.le_of_ble_eq_true rfl) dL_does_49 ⟨Nat.le_of_ble_eq_true rfl, Nat.le_of_ble_eq_true rfl⟩ (fun E ce q9 H1 locs1 hbd hP hD hS hce hcv hcl => ?_) (fun hok _ _ _ _ _ => (hok.2.2 e2).elim)
  have hE9 : E = xS := hbd.elim (fun h0 => absurd (h0.1) e0) (fun h0 => h0.elim (fun h1 => absurd (h1.2.1) e1) (fun h1 => h1.2.2.2))
  subst hE9
  refine vx_catch (own := RL) (name := xS) hown [⟨0, 86, 87, 38⟩, ⟨0, 86, 92, 41⟩] ⟨0, 86, 97, 43⟩ [] (by rw [htab]; rfl) (fun z hz => (List.mem_cons.mp hz).elim (fun h => by subst h; exact Or.inr ⟨by decide, _, hts (.classLink RL 38 "java/lang/IndexOutOfBoundsException") (List.mem_of_getElem? (i := 1) rfl), hE.2.2.2.2.2.2.1 _ (List.mem_of_getElem? (i := 1) rfl)⟩) (fun hz => (List.mem_cons.mp hz).elim (fun h => by subst h; exact Or.inr ⟨by decide, _, hts (.classLink RL 41 "java/lang/IllegalArgumentException") (List.mem_of_getElem? (i := 2) rfl), hE.2.2.2.2.2.2.1 _ (List.mem_of_getElem? (i := 2) rfl)⟩) (fun hz => nomatch hz))) rfl (by decide) (hts (.classLink RL 43 "java/lang/IllegalStateException") (List.mem_of_getElem? (i := 3) rfl)) (va_Nw.use rfl (hE.2.2.2.2.2.1 xS xSm)) hce hcv hcl ?_
  refine lv_astore (lv' := [(5, .ref q9), (0, .ref xo), (1, .int 3), (2, .int i), (3, .int mo), (4, .int x1)]) hx hb dL_does_97 hl (by decide) rfl (fun ls hl => ?_)
  refine lv_ldc (v := (-99999)) hx hb hown (hts (.constant RL 40 (-99999)) (List.mem_of_getElem? (i := 4) rfl)) dL_does_99 ?_
  exact hw_i hx hb hr hlocks hP hD hS dL_does_101 (rfl) rfl (Nat.le_of_ble_eq_true rfl) (Nat.le_of_ble_eq_true rfl)
set_option maxHeartbeats 4000000 in
set_option maxRecDepth 100000 in
theorem c_L_does_3_3 (l : Launch) (D : va_G) (z : Nat → ClassId) (q : Nat → Nat) (xo : Nat) (xb : Nat) (xg : Nat) (xn : Nat) (xt : Nat) (xp : Nat) (xk : Nat) (xf : Nat) (dy : Int32) (b1 : Nat) (w1 : Nat) (b2 : Nat) (w2 : Nat) (pl : Nat → Int32) (lo : Nat → Int32) (g1 : Nat) (y1 : Nat) (g2 : Nat) (y2 : Nat) (g3 : Nat) (y3 : Nat) (g4 : Nat) (y4 : Nat) (ct : Nat → Int32) (ti : Nat → Int32) (sh : Nat → Int32) (pr : Nat → Int32) (wt : Int32) (wh : Int32) (t1 : Nat) (r1 : Nat) (t2 : Nat) (r2 : Nat) (lt : Nat → Int32) (ty : Nat → Int32) (zz : Int32) (po : Int32) (me : Int32) (ml : Int32) (ka : Nat) (ek : Nat → Int32) (fa : Nat) (ef : Nat → Int32) (du : Int32) (kd : Int32) (ct1 : Nat → Int32) (ti1 : Nat → Int32) (sh1 : Nat → Int32) (pr1 : Nat → Int32) (ty1 : Nat → Int32) (ek1 : Nat → Int32) (ef1 : Nat → Int32) (i : Int32) (mo : Int32) (x1 : Int32) (sz : Nat) (hdu : du = tAt lt zz po) (hkd : kd = kKind pl lo lt ty zz po i du) (hct : ct1 = cSet 26 ct du (cAt 26 ct du + 1)) (hti : ti1 = cSet 26 ti du (fAged (cAt 26 ti du) mo)) (hsh : sh1 = cSet 26 sh du (fShr (cAt 26 sh du) (if kd = -1 then 0 else 1))) (hpr : pr1 = kPr pr lt zz po du mo) (hty : ty1 = cSet 40 ty po i) (hek : ek1 = kErr ek 5 kd kd) (hef : ef1 = kErr ef 8 kd (bFin pl du)) (e0 : ¬ bW i 0 25 = 0) (e1 : ¬ bW mo 1 5000 = 0) (e2 : ¬ tAt lt zz po = -1) (hlt : l.stackTraces = false) : HW l yL_does wsL_does ({ frames := 8, cells := 3, slots := 18, locals := 164 } : Room) D z q [.ref xo, .int 3, .int i, .int mo, .int x1] [(xo, .inr (6, [.ref xb, .ref xg, .ref xn, .ref xt, .ref xp, .ref xk, .ref xf, .int dy])), (xb, .inr (0, [.ref b1, .ref b2])), (b1, .inr (1, [.ref w1])), (w1, .inl (z 0, 26, .inl pl)), (b2, .inr (1, [.ref w2])), (w2, .inl (z 0, 30, .inl lo)), (xg, .inr (2, [.ref g1, .ref g2, .ref g3, .ref g4, .int wt, .int wh])), (g1, .inr (1, [.ref y1])), (y1, .inl (z 0, 26, .inl ct)), (g2, .inr (1, [.ref y2])), (y2, .inl (z 0, 26, .inl ti)), (g3, .inr (1, [.ref y3])), (y3, .inl (z 0, 26, .inl sh)), (g4, .inr (1, [.ref y4])), (y4, .inl (z 0, 676, .inl pr)), (xt, .inr (3, [.ref t1, .ref t2, .int zz, .int po, .int me, .int ml])), (t1, .inr (1, [.ref r1])), (r1, .inl (z 0, 40, .inl lt)), (t2, .inr (1, [.ref r2])), (r2, .inl (z 0, 40, .inl ty)), (xk, .inr (1, [.ref ka])), (ka, .inl (z 0, 5, .inl ek)), (xf, .inr (1, [.ref fa])), (fa, .inl (z 0, 8, .inl ef))] sz [(xo, .inr (6, [.ref xb, .ref xg, .ref xn, .ref xt, .ref xp, .ref xk, .ref xf, .int (dy + 1)])), (xb, .inr (0, [.ref b1, .ref b2])), (b1, .inr (1, [.ref w1])), (w1, .inl (z 0, 26, .inl pl)), (b2, .inr (1, [.ref w2])), (w2, .inl (z 0, 30, .inl lo)), (xg, .inr (2, [.ref g1, .ref g2, .ref g3, .ref g4, .int wt, .int wh])), (g1, .inr (1, [.ref y1])), (y1, .inl (z 0, 26, .inl ct1)), (g2, .inr (1, [.ref y2])), (y2, .inl (z 0, 26, .inl ti1)), (g3, .inr (1, [.ref y3])), (y3, .inl (z 0, 26, .inl sh1)), (g4, .inr (1, [.ref y4])), (y4, .inl (z 0, 676, .inl pr1)), (xt, .inr (3, [.ref t1, .ref t2, .int zz, .int (po + 1), .int me, .int (ml + mo)])), (t1, .inr (1, [.ref r1])), (r1, .inl (z 0, 40, .inl lt)), (t2, .inr (1, [.ref r2])), (r2, .inl (z 0, 40, .inl ty1)), (xk, .inr (1, [.ref ka])), (ka, .inl (z 0, 5, .inl ek1)), (xf, .inr (1, [.ref fa])), (fa, .inl (z 0, 8, .inl ef1))] (some (.int kd)) := by
  refine HW_mk (hh := [(0, 86, 87, 38), (0, 86, 92, 41), (0, 86, 97, 43)]) (cc := cL_does) (maxL := 6) (ret := (some .int)) (by decide) rfl (Nat.le_of_ble_eq_true rfl) ?_
  intro p e s m below meth c A hx hb hr hml hts hown hlocks htab H hP hD hE hS hA ls hl
  have hK := hE.1
  have hown : s.vm.findClass RL = some m.cls := hown
  have hl : lv_has ls 6 [(0, .ref xo), (1, .int 3), (2, .int i), (3, .int mo), (4, .int x1)] := hl
  refine lv_iload_n hx hb dL_does_0 rfl (lv_at hl 1 rfl) ?_
  refine lv_if_ne (tgt := 15) hx hb dL_does_1 (by decide) (fun _ => ?_) (fun c_1 => absurd c_1 (by decide))
  refine lv_iload_n hx hb dL_does_15 rfl (lv_at hl 1 rfl) ?_
  refine lv_iconst (v := 1) hx hb dL_does_16 (by decide) ?_
  refine lv_icmp_ne (tgt := 28) hx hb dL_does_17 (by decide) (fun _ => ?_) (fun c_2 => absurd c_2 (by decide))
  refine lv_iload_n hx hb dL_does_28 rfl (lv_at hl 1 rfl) ?_
  refine lv_iconst (v := 2) hx hb dL_does_29 (by decide) ?_
  refine lv_icmp_ne (tgt := 41) hx hb dL_does_30 (by decide) (fun _ => ?_) (fun c_3 => absurd c_3 (by decide))
  refine lv_iload_n hx hb dL_does_41 rfl (lv_at hl 1 rfl) ?_
  refine lv_iconst (v := 3) hx hb dL_does_42 (by decide) ?_
  refine lv_icmp_ne (tgt := 55) hx hb dL_does_43 (by decide) (fun c_4 => absurd (by decide) c_4) (fun _ => ?_)
  refine lv_aload_n hx hb dL_does_46 rfl (lv_at hl 0 rfl) ?_
  refine lv_iload_n hx hb dL_does_47 rfl (lv_at hl 2 rfl) ?_
  refine lv_iload_n hx hb dL_does_48 rfl (lv_at hl 3 rfl) ?_
  refine txV (As := [.int i, .int mo]) (rest := []) ⟨hx, hb, hml, hown, hts⟩ (c_X6_strokeA l D z q xo xb xg xn xt xp xk xf dy b1 w1 b2 w2 pl lo g1 y1 g2 y2 g3 y3 g4 y4 ct ti sh pr wt wh t1 r1 t2 r2 lt ty zz po me ml ka ek fa ef i mo du kd ct1 ti1 sh1 pr1 ty1 ek1 ef1 H.size hdu hkd hct hti hsh hpr hty hek hef hlt) (cwV 2 hts gL_does_X6_stroke rfl rfl rfl hd_X6_stroke ⟨Nat.le_of_ble_eq_true rfl, Nat.le_of_ble_eq_true rfl⟩) hE hS hA hP hD [0, 1, 2, 3, 4, 5, 6, 7, 8, 9, 10, 11, 12, 13, 14, 15, 16, 17, 18, 19, 20, 21, 22, 23] rfl rfl rfl rfl rfl rfl rfl hl.1 rfl (Nat.le_of_ble_eq_true rfl) dL_does_49 ⟨Nat.le_of_ble_eq_true rfl, Nat.le_of_ble_eq_true rfl⟩ (fun E ce q9 H1 locs1 hbd _ _ _ _ _ _ => (hbd.elim (fun h0 => e0 (h0.1)) (fun h0 => h0.elim (fun h1 => e1 (h1.2.1)) (fun h1 => e2 (h1.2.2.1))) : False).elim) (fun _ H locs hP hD hS => ?_)
  have hP : va_P D vwCl [(xo, .inr (6, [.ref xb, .ref xg, .ref xn, .ref xt, .ref xp, .ref xk, .ref xf, .int (dy + 1)])), (xb, .inr (0, [.ref b1, .ref b2])), (b1, .inr (1, [.ref w1])), (w1, .inl (z 0, 26, .inl pl)), (b2, .inr (1, [.ref w2])), (w2, .inl (z 0, 30, .inl lo)), (xg, .inr (2, [.ref g1, .ref g2, .ref g3, .ref g4, .int wt, .int wh])), (g1, .inr (1, [.ref y1])), (y1, .inl (z 0, 26, .inl ct1)), (g2, .inr (1, [.ref y2])), (y2, .inl (z 0, 26, .inl ti1)), (g3, .inr (1, [.ref y3])), (y3, .inl (z 0, 26, .inl sh1)), (g4, .inr (1, [.ref y4])), (y4, .inl (z 0, 676, .inl pr1)), (xt, .inr (3, [.ref t1, .ref t2, .int zz, .int (po + 1), .int me, .int (ml + mo)])), (t1, .inr (1, [.ref r1])), (r1, .inl (z 0, 40, .inl lt)), (t2, .inr (1, [.ref r2])), (r2, .inl (z 0, 40, .inl ty1)), (xk, .inr (1, [.ref ka])), (ka, .inl (z 0, 5, .inl ek1)), (xf, .inr (1, [.ref fa])), (fa, .inl (z 0, 8, .inl ef1))] H := hP
  have hD : va_D A [(xo, .inr (6, [.ref xb, .ref xg, .ref xn, .ref xt, .ref xp, .ref xk, .ref xf, .int (dy + 1)])), (xb, .inr (0, [.ref b1, .ref b2])), (b1, .inr (1, [.ref w1])), (w1, .inl (z 0, 26, .inl pl)), (b2, .inr (1, [.ref w2])), (w2, .inl (z 0, 30, .inl lo)), (xg, .inr (2, [.ref g1, .ref g2, .ref g3, .ref g4, .int wt, .int wh])), (g1, .inr (1, [.ref y1])), (y1, .inl (z 0, 26, .inl ct1)), (g2, .inr (1, [.ref y2])), (y2, .inl (z 0, 26, .inl ti1)), (g3, .inr (1, [.ref y3])), (y3, .inl (z 0, 26, .inl sh1)), (g4, .inr (1, [.ref y4])), (y4, .inl (z 0, 676, .inl pr1)), (xt, .inr (3, [.ref t1, .ref t2, .int zz, .int (po + 1), .int me, .int (ml + mo)])), (t1, .inr (1, [.ref r1])), (r1, .inl (z 0, 40, .inl lt)), (t2, .inr (1, [.ref r2])), (r2, .inl (z 0, 40, .inl ty1)), (xk, .inr (1, [.ref ka])), (ka, .inl (z 0, 5, .inl ek1)), (xf, .inr (1, [.ref fa])), (fa, .inl (z 0, 8, .inl ef1))] := hD
  refine lv_goto (tgt := 86) hx hb dL_does_52 (by decide) ?_
  exact hw_i hx hb hr hlocks hP hD hS dL_does_86 (rfl) rfl (Nat.le_of_ble_eq_true rfl) (Nat.le_of_ble_eq_true rfl)
set_option maxHeartbeats 4000000 in
set_option maxRecDepth 100000 in
theorem c_L_does_4_0 (l : Launch) (D : va_G) (z : Nat → ClassId) (q : Nat → Nat) (xo : Nat) (xb : Nat) (xg : Nat) (xn : Nat) (xt : Nat) (xp : Nat) (xk : Nat) (xf : Nat) (dy : Int32) (t1 : Nat) (r1 : Nat) (t2 : Nat) (r2 : Nat) (lt : Nat → Int32) (ty : Nat → Int32) (zz : Int32) (po : Int32) (me : Int32) (ml : Int32) (mo : Int32) (x1 : Int32) (x2 : Int32) (sz : Nat) (e0 : bW mo 1 5000 = 0) (hlt : l.stackTraces = false) : HW l yL_does wsL_does ({ frames := 8, cells := 3, slots := 18, locals := 161 } : Room) D z q [.ref xo, .int 4, .int mo, .int x1, .int x2] [(xo, .inr (6, [.ref xb, .ref xg, .ref xn, .ref xt, .ref xp, .ref xk, .ref xf, .int dy])), (xt, .inr (3, [.ref t1, .ref t2, .int zz, .int po, .int me, .int ml])), (t1, .inr (1, [.ref r1])), (r1, .inl (z 0, 40, .inl lt)), (t2, .inr (1, [.ref r2])), (r2, .inl (z 0, 40, .inl ty))] sz [(xo, .inr (6, [.ref xb, .ref xg, .ref xn, .ref xt, .ref xp, .ref xk, .ref xf, .int dy])), (xt, .inr (3, [.ref t1, .ref t2, .int zz, .int po, .int me, .int ml])), (t1, .inr (1, [.ref r1])), (r1, .inl (z 0, 40, .inl lt)), (t2, .inr (1, [.ref r2])), (r2, .inl (z 0, 40, .inl ty))] (some (.int (-99999))) := by
  refine HW_mk (hh := [(0, 86, 87, 38), (0, 86, 92, 41), (0, 86, 97, 43)]) (cc := cL_does) (maxL := 6) (ret := (some .int)) (by decide) rfl (Nat.le_of_ble_eq_true rfl) ?_
  intro p e s m below meth c A hx hb hr hml hts hown hlocks htab H hP hD hE hS hA ls hl
  have hK := hE.1
  have hown : s.vm.findClass RL = some m.cls := hown
  have hl : lv_has ls 6 [(0, .ref xo), (1, .int 4), (2, .int mo), (3, .int x1), (4, .int x2)] := hl
  refine lv_iload_n hx hb dL_does_0 rfl (lv_at hl 1 rfl) ?_
  refine lv_if_ne (tgt := 15) hx hb dL_does_1 (by decide) (fun _ => ?_) (fun c_1 => absurd c_1 (by decide))
  refine lv_iload_n hx hb dL_does_15 rfl (lv_at hl 1 rfl) ?_
  refine lv_iconst (v := 1) hx hb dL_does_16 (by decide) ?_
  refine lv_icmp_ne (tgt := 28) hx hb dL_does_17 (by decide) (fun _ => ?_) (fun c_2 => absurd c_2 (by decide))
  refine lv_iload_n hx hb dL_does_28 rfl (lv_at hl 1 rfl) ?_
  refine lv_iconst (v := 2) hx hb dL_does_29 (by decide) ?_
  refine lv_icmp_ne (tgt := 41) hx hb dL_does_30 (by decide) (fun _ => ?_) (fun c_3 => absurd c_3 (by decide))
  refine lv_iload_n hx hb dL_does_41 rfl (lv_at hl 1 rfl) ?_
  refine lv_iconst (v := 3) hx hb dL_does_42 (by decide) ?_
  refine lv_icmp_ne (tgt := 55) hx hb dL_does_43 (by decide) (fun _ => ?_) (fun c_4 => absurd c_4 (by decide))
  refine lv_iload_n hx hb dL_does_55 rfl (lv_at hl 1 rfl) ?_
  refine lv_iconst (v := 4) hx hb dL_does_56 (by decide) ?_
  refine lv_icmp_ne (tgt := 68) hx hb dL_does_57 (by decide) (fun c_5 => absurd (by decide) c_5) (fun _ => ?_)
  refine lv_aload_n hx hb dL_does_60 rfl (lv_at hl 0 rfl) ?_
  refine lv_iload_n hx hb dL_does_61 rfl (lv_at hl 2 rfl) ?_
  refine txV (As := [.int mo]) (rest := []) ⟨hx, hb, hml, hown, hts⟩ (c_X6_back l D z q xo xb xg xn xt xp xk xf dy t1 r1 t2 r2 lt ty zz po me ml mo H.size hlt) (cwV 1 hts gL_does_X6_back rfl rfl rfl hd_X6_back ⟨Nat.le_of_ble_eq_true rfl, Nat.le_of_ble_eq_true rfl⟩) hE hS hA hP hD [0, 1, 2, 3, 4, 5] rfl rfl rfl rfl rfl rfl rfl hl.1 rfl (Nat.le_of_ble_eq_true rfl) dL_does_62 ⟨Nat.le_of_ble_eq_true rfl, Nat.le_of_ble_eq_true rfl⟩ (fun E ce q9 H1 locs1 hbd hP hD hS hce hcv hcl => ?_) (fun hok _ _ _ _ _ => (hok.1 e0).elim)
  have hE9 : E = xA := hbd.elim (fun h0 => h0.2) (fun h0 => (h0.1 e0).elim)
  subst hE9
  refine vx_catch (own := RL) (name := xA) hown [⟨0, 86, 87, 38⟩] ⟨0, 86, 92, 41⟩ [⟨0, 86, 97, 43⟩] (by rw [htab]; rfl) (fun z hz => (List.mem_cons.mp hz).elim (fun h => by subst h; exact Or.inr ⟨by decide, _, hts (.classLink RL 38 "java/lang/IndexOutOfBoundsException") (List.mem_of_getElem? (i := 1) rfl), hE.2.2.2.2.2.2.1 _ (List.mem_of_getElem? (i := 0) rfl)⟩) (fun hz => nomatch hz)) rfl (by decide) (hts (.classLink RL 41 "java/lang/IllegalArgumentException") (List.mem_of_getElem? (i := 2) rfl)) (va_Nw.use rfl (hE.2.2.2.2.2.1 xA xAm)) hce hcv hcl ?_
  refine lv_astore (lv' := [(5, .ref q9), (0, .ref xo), (1, .int 4), (2, .int mo), (3, .int x1), (4, .int x2)]) hx hb dL_does_92 hl (by decide) rfl (fun ls hl => ?_)
  refine lv_ldc (v := (-99999)) hx hb hown (hts (.constant RL 40 (-99999)) (List.mem_of_getElem? (i := 4) rfl)) dL_does_94 ?_
  exact hw_i hx hb hr hlocks hP hD hS dL_does_96 (rfl) rfl (Nat.le_of_ble_eq_true rfl) (Nat.le_of_ble_eq_true rfl)
set_option maxHeartbeats 4000000 in
set_option maxRecDepth 100000 in
theorem c_L_does_4_1 (l : Launch) (D : va_G) (z : Nat → ClassId) (q : Nat → Nat) (xo : Nat) (xb : Nat) (xg : Nat) (xn : Nat) (xt : Nat) (xp : Nat) (xk : Nat) (xf : Nat) (dy : Int32) (t1 : Nat) (r1 : Nat) (t2 : Nat) (r2 : Nat) (lt : Nat → Int32) (ty : Nat → Int32) (zz : Int32) (po : Int32) (me : Int32) (ml : Int32) (mo : Int32) (x1 : Int32) (x2 : Int32) (sz : Nat) (e0 : ¬ bW mo 1 5000 = 0) (e1 : po = 0) (hlt : l.stackTraces = false) : HW l yL_does wsL_does ({ frames := 8, cells := 3, slots := 18, locals := 161 } : Room) D z q [.ref xo, .int 4, .int mo, .int x1, .int x2] [(xo, .inr (6, [.ref xb, .ref xg, .ref xn, .ref xt, .ref xp, .ref xk, .ref xf, .int dy])), (xt, .inr (3, [.ref t1, .ref t2, .int zz, .int po, .int me, .int ml])), (t1, .inr (1, [.ref r1])), (r1, .inl (z 0, 40, .inl lt)), (t2, .inr (1, [.ref r2])), (r2, .inl (z 0, 40, .inl ty))] sz [(xo, .inr (6, [.ref xb, .ref xg, .ref xn, .ref xt, .ref xp, .ref xk, .ref xf, .int dy])), (xt, .inr (3, [.ref t1, .ref t2, .int zz, .int po, .int me, .int ml])), (t1, .inr (1, [.ref r1])), (r1, .inl (z 0, 40, .inl lt)), (t2, .inr (1, [.ref r2])), (r2, .inl (z 0, 40, .inl ty))] (some (.int (-99999))) := by
  refine HW_mk (hh := [(0, 86, 87, 38), (0, 86, 92, 41), (0, 86, 97, 43)]) (cc := cL_does) (maxL := 6) (ret := (some .int)) (by decide) rfl (Nat.le_of_ble_eq_true rfl) ?_
  intro p e s m below meth c A hx hb hr hml hts hown hlocks htab H hP hD hE hS hA ls hl
  have hK := hE.1
  have hown : s.vm.findClass RL = some m.cls := hown
  have hl : lv_has ls 6 [(0, .ref xo), (1, .int 4), (2, .int mo), (3, .int x1), (4, .int x2)] := hl
  refine lv_iload_n hx hb dL_does_0 rfl (lv_at hl 1 rfl) ?_
  refine lv_if_ne (tgt := 15) hx hb dL_does_1 (by decide) (fun _ => ?_) (fun c_1 => absurd c_1 (by decide))
  refine lv_iload_n hx hb dL_does_15 rfl (lv_at hl 1 rfl) ?_
  refine lv_iconst (v := 1) hx hb dL_does_16 (by decide) ?_
  refine lv_icmp_ne (tgt := 28) hx hb dL_does_17 (by decide) (fun _ => ?_) (fun c_2 => absurd c_2 (by decide))
  refine lv_iload_n hx hb dL_does_28 rfl (lv_at hl 1 rfl) ?_
  refine lv_iconst (v := 2) hx hb dL_does_29 (by decide) ?_
  refine lv_icmp_ne (tgt := 41) hx hb dL_does_30 (by decide) (fun _ => ?_) (fun c_3 => absurd c_3 (by decide))
  refine lv_iload_n hx hb dL_does_41 rfl (lv_at hl 1 rfl) ?_
  refine lv_iconst (v := 3) hx hb dL_does_42 (by decide) ?_
  refine lv_icmp_ne (tgt := 55) hx hb dL_does_43 (by decide) (fun _ => ?_) (fun c_4 => absurd c_4 (by decide))
  refine lv_iload_n hx hb dL_does_55 rfl (lv_at hl 1 rfl) ?_
  refine lv_iconst (v := 4) hx hb dL_does_56 (by decide) ?_
  refine lv_icmp_ne (tgt := 68) hx hb dL_does_57 (by decide) (fun c_5 => absurd (by decide) c_5) (fun _ => ?_)
  refine lv_aload_n hx hb dL_does_60 rfl (lv_at hl 0 rfl) ?_
  refine lv_iload_n hx hb dL_does_61 rfl (lv_at hl 2 rfl) ?_
  refine txV (As := [.int mo]) (rest := []) ⟨hx, hb, hml, hown, hts⟩ (c_X6_back l D z q xo xb xg xn xt xp xk xf dy t1 r1 t2 r2 lt ty zz po me ml mo H.size hlt) (cwV 1 hts gL_does_X6_back rfl rfl rfl hd_X6_back ⟨Nat.le_of_ble_eq_true rfl, Nat.le_of_ble_eq_true rfl⟩) hE hS hA hP hD [0, 1, 2, 3, 4, 5] rfl rfl rfl rfl rfl rfl rfl hl.1 rfl (Nat.le_of_ble_eq_true rfl) dL_does_62 ⟨Nat.le_of_ble_eq_true rfl, Nat.le_of_ble_eq_true rfl⟩ (fun E ce q9 H1 locs1 hbd hP hD hS hce hcv hcl => ?_) (fun hok _ _ _ _ _ => (hok.2 e1).elim)
  have hE9 : E = xS := hbd.elim (fun h0 => absurd (h0.1) e0) (fun h0 => h0.2.2)
  subst hE9
  refine vx_catch (own := RL) (name := xS) hown [⟨0, 86, 87, 38⟩, ⟨0, 86, 92, 41⟩] ⟨0, 86, 97, 43⟩ [] (by rw [htab]; rfl) (fun z hz => (List.mem_cons.mp hz).elim (fun h => by subst h; exact Or.inr ⟨by decide, _, hts (.classLink RL 38 "java/lang/IndexOutOfBoundsException") (List.mem_of_getElem? (i := 1) rfl), hE.2.2.2.2.2.2.1 _ (List.mem_of_getElem? (i := 1) rfl)⟩) (fun hz => (List.mem_cons.mp hz).elim (fun h => by subst h; exact Or.inr ⟨by decide, _, hts (.classLink RL 41 "java/lang/IllegalArgumentException") (List.mem_of_getElem? (i := 2) rfl), hE.2.2.2.2.2.2.1 _ (List.mem_of_getElem? (i := 2) rfl)⟩) (fun hz => nomatch hz))) rfl (by decide) (hts (.classLink RL 43 "java/lang/IllegalStateException") (List.mem_of_getElem? (i := 3) rfl)) (va_Nw.use rfl (hE.2.2.2.2.2.1 xS xSm)) hce hcv hcl ?_
  refine lv_astore (lv' := [(5, .ref q9), (0, .ref xo), (1, .int 4), (2, .int mo), (3, .int x1), (4, .int x2)]) hx hb dL_does_97 hl (by decide) rfl (fun ls hl => ?_)
  refine lv_ldc (v := (-99999)) hx hb hown (hts (.constant RL 40 (-99999)) (List.mem_of_getElem? (i := 4) rfl)) dL_does_99 ?_
  exact hw_i hx hb hr hlocks hP hD hS dL_does_101 (rfl) rfl (Nat.le_of_ble_eq_true rfl) (Nat.le_of_ble_eq_true rfl)
set_option maxHeartbeats 4000000 in
set_option maxRecDepth 100000 in
theorem c_L_does_4_2 (l : Launch) (D : va_G) (z : Nat → ClassId) (q : Nat → Nat) (xo : Nat) (xb : Nat) (xg : Nat) (xn : Nat) (xt : Nat) (xp : Nat) (xk : Nat) (xf : Nat) (dy : Int32) (t1 : Nat) (r1 : Nat) (t2 : Nat) (r2 : Nat) (lt : Nat → Int32) (ty : Nat → Int32) (zz : Int32) (po : Int32) (me : Int32) (ml : Int32) (mo : Int32) (x1 : Int32) (x2 : Int32) (sz : Nat) (e0 : ¬ bW mo 1 5000 = 0) (e1 : ¬ po = 0) (hlt : l.stackTraces = false) : HW l yL_does wsL_does ({ frames := 8, cells := 3, slots := 18, locals := 161 } : Room) D z q [.ref xo, .int 4, .int mo, .int x1, .int x2] [(xo, .inr (6, [.ref xb, .ref xg, .ref xn, .ref xt, .ref xp, .ref xk, .ref xf, .int dy])), (xt, .inr (3, [.ref t1, .ref t2, .int zz, .int po, .int me, .int ml])), (t1, .inr (1, [.ref r1])), (r1, .inl (z 0, 40, .inl lt)), (t2, .inr (1, [.ref r2])), (r2, .inl (z 0, 40, .inl ty))] sz [(xo, .inr (6, [.ref xb, .ref xg, .ref xn, .ref xt, .ref xp, .ref xk, .ref xf, .int dy])), (xt, .inr (3, [.ref t1, .ref t2, .int zz, .int (po - 1), .int (me + 1), .int (ml + mo)])), (t1, .inr (1, [.ref r1])), (r1, .inl (z 0, 40, .inl lt)), (t2, .inr (1, [.ref r2])), (r2, .inl (z 0, 40, .inl ty))] (some (.int (po - 1))) := by
  refine HW_mk (hh := [(0, 86, 87, 38), (0, 86, 92, 41), (0, 86, 97, 43)]) (cc := cL_does) (maxL := 6) (ret := (some .int)) (by decide) rfl (Nat.le_of_ble_eq_true rfl) ?_
  intro p e s m below meth c A hx hb hr hml hts hown hlocks htab H hP hD hE hS hA ls hl
  have hK := hE.1
  have hown : s.vm.findClass RL = some m.cls := hown
  have hl : lv_has ls 6 [(0, .ref xo), (1, .int 4), (2, .int mo), (3, .int x1), (4, .int x2)] := hl
  refine lv_iload_n hx hb dL_does_0 rfl (lv_at hl 1 rfl) ?_
  refine lv_if_ne (tgt := 15) hx hb dL_does_1 (by decide) (fun _ => ?_) (fun c_1 => absurd c_1 (by decide))
  refine lv_iload_n hx hb dL_does_15 rfl (lv_at hl 1 rfl) ?_
  refine lv_iconst (v := 1) hx hb dL_does_16 (by decide) ?_
  refine lv_icmp_ne (tgt := 28) hx hb dL_does_17 (by decide) (fun _ => ?_) (fun c_2 => absurd c_2 (by decide))
  refine lv_iload_n hx hb dL_does_28 rfl (lv_at hl 1 rfl) ?_
  refine lv_iconst (v := 2) hx hb dL_does_29 (by decide) ?_
  refine lv_icmp_ne (tgt := 41) hx hb dL_does_30 (by decide) (fun _ => ?_) (fun c_3 => absurd c_3 (by decide))
  refine lv_iload_n hx hb dL_does_41 rfl (lv_at hl 1 rfl) ?_
  refine lv_iconst (v := 3) hx hb dL_does_42 (by decide) ?_
  refine lv_icmp_ne (tgt := 55) hx hb dL_does_43 (by decide) (fun _ => ?_) (fun c_4 => absurd c_4 (by decide))
  refine lv_iload_n hx hb dL_does_55 rfl (lv_at hl 1 rfl) ?_
  refine lv_iconst (v := 4) hx hb dL_does_56 (by decide) ?_
  refine lv_icmp_ne (tgt := 68) hx hb dL_does_57 (by decide) (fun c_5 => absurd (by decide) c_5) (fun _ => ?_)
  refine lv_aload_n hx hb dL_does_60 rfl (lv_at hl 0 rfl) ?_
  refine lv_iload_n hx hb dL_does_61 rfl (lv_at hl 2 rfl) ?_
  refine txV (As := [.int mo]) (rest := []) ⟨hx, hb, hml, hown, hts⟩ (c_X6_back l D z q xo xb xg xn xt xp xk xf dy t1 r1 t2 r2 lt ty zz po me ml mo H.size hlt) (cwV 1 hts gL_does_X6_back rfl rfl rfl hd_X6_back ⟨Nat.le_of_ble_eq_true rfl, Nat.le_of_ble_eq_true rfl⟩) hE hS hA hP hD [0, 1, 2, 3, 4, 5] rfl rfl rfl rfl rfl rfl rfl hl.1 rfl (Nat.le_of_ble_eq_true rfl) dL_does_62 ⟨Nat.le_of_ble_eq_true rfl, Nat.le_of_ble_eq_true rfl⟩ (fun E ce q9 H1 locs1 hbd _ _ _ _ _ _ => (hbd.elim (fun h0 => e0 (h0.1)) (fun h0 => e1 (h0.2.1)) : False).elim) (fun _ H locs hP hD hS => ?_)
  have hP : va_P D vwCl [(xo, .inr (6, [.ref xb, .ref xg, .ref xn, .ref xt, .ref xp, .ref xk, .ref xf, .int dy])), (xt, .inr (3, [.ref t1, .ref t2, .int zz, .int (po - 1), .int (me + 1), .int (ml + mo)])), (t1, .inr (1, [.ref r1])), (r1, .inl (z 0, 40, .inl lt)), (t2, .inr (1, [.ref r2])), (r2, .inl (z 0, 40, .inl ty))] H := hP
  have hD : va_D A [(xo, .inr (6, [.ref xb, .ref xg, .ref xn, .ref xt, .ref xp, .ref xk, .ref xf, .int dy])), (xt, .inr (3, [.ref t1, .ref t2, .int zz, .int (po - 1), .int (me + 1), .int (ml + mo)])), (t1, .inr (1, [.ref r1])), (r1, .inl (z 0, 40, .inl lt)), (t2, .inr (1, [.ref r2])), (r2, .inl (z 0, 40, .inl ty))] := hD
  refine lv_goto (tgt := 86) hx hb dL_does_65 (by decide) ?_
  exact hw_i hx hb hr hlocks hP hD hS dL_does_86 (rfl) rfl (Nat.le_of_ble_eq_true rfl) (Nat.le_of_ble_eq_true rfl)
set_option maxHeartbeats 4000000 in
set_option maxRecDepth 100000 in
theorem c_L_does_5_0 (l : Launch) (D : va_G) (z : Nat → ClassId) (q : Nat → Nat) (xo : Nat) (xb : Nat) (xg : Nat) (xn : Nat) (xt : Nat) (xp : Nat) (xk : Nat) (xf : Nat) (dy : Int32) (na : Nat) (ia : Nat → Int32) (g1 : Nat) (y1 : Nat) (g2 : Nat) (y2 : Nat) (g3 : Nat) (y3 : Nat) (g4 : Nat) (y4 : Nat) (ct : Nat → Int32) (ti : Nat → Int32) (sh : Nat → Int32) (pr : Nat → Int32) (wt : Int32) (wh : Int32) (t1 : Nat) (r1 : Nat) (t2 : Nat) (r2 : Nat) (lt : Nat → Int32) (ty : Nat → Int32) (zz : Int32) (po : Int32) (me : Int32) (ml : Int32) (p1 : Nat) (k1 : Nat) (kp : Nat → Int32) (sn : Int32) (ps : Nat) (x1 : Int32) (x2 : Int32) (x3 : Int32) (sz : Nat) (hps : po = nI ps) (hp40 : ps ≤ 40) (e0 : ¬ pFull sn = 0) (hlt : l.stackTraces = false) : HW l yL_does wsL_does ({ frames := 7, cells := 3, slots := 18, locals := 141 } : Room) D z q [.ref xo, .int 5, .int x1, .int x2, .int x3] [(xo, .inr (6, [.ref xb, .ref xg, .ref xn, .ref xt, .ref xp, .ref xk, .ref xf, .int dy])), (xn, .inr (4, [.ref na, .ref xg])), (na, .inl (z 1, 26, .inl ia)), (xg, .inr (2, [.ref g1, .ref g2, .ref g3, .ref g4, .int wt, .int wh])), (g1, .inr (1, [.ref y1])), (y1, .inl (z 0, 26, .inl ct)), (g2, .inr (1, [.ref y2])), (y2, .inl (z 0, 26, .inl ti)), (g3, .inr (1, [.ref y3])), (y3, .inl (z 0, 26, .inl sh)), (g4, .inr (1, [.ref y4])), (y4, .inl (z 0, 676, .inl pr)), (xt, .inr (3, [.ref t1, .ref t2, .int zz, .int po, .int me, .int ml])), (t1, .inr (1, [.ref r1])), (r1, .inl (z 0, 40, .inl lt)), (t2, .inr (1, [.ref r2])), (r2, .inl (z 0, 40, .inl ty)), (xp, .inr (5, [.ref p1, .int sn])), (p1, .inr (1, [.ref k1])), (k1, .inl (z 0, 100, .inl kp))] sz [(xo, .inr (6, [.ref xb, .ref xg, .ref xn, .ref xt, .ref xp, .ref xk, .ref xf, .int dy])), (xn, .inr (4, [.ref na, .ref xg])), (na, .inl (z 1, 26, .inl ia)), (xg, .inr (2, [.ref g1, .ref g2, .ref g3, .ref g4, .int wt, .int wh])), (g1, .inr (1, [.ref y1])), (y1, .inl (z 0, 26, .inl ct)), (g2, .inr (1, [.ref y2])), (y2, .inl (z 0, 26, .inl ti)), (g3, .inr (1, [.ref y3])), (y3, .inl (z 0, 26, .inl sh)), (g4, .inr (1, [.ref y4])), (y4, .inl (z 0, 676, .inl pr)), (xt, .inr (3, [.ref t1, .ref t2, .int zz, .int po, .int me, .int ml])), (t1, .inr (1, [.ref r1])), (r1, .inl (z 0, 40, .inl lt)), (t2, .inr (1, [.ref r2])), (r2, .inl (z 0, 40, .inl ty)), (xp, .inr (5, [.ref p1, .int sn])), (p1, .inr (1, [.ref k1])), (k1, .inl (z 0, 100, .inl kp))] (some (.int (-99999))) := by
  refine HW_mk (hh := [(0, 86, 87, 38), (0, 86, 92, 41), (0, 86, 97, 43)]) (cc := cL_does) (maxL := 6) (ret := (some .int)) (by decide) rfl (Nat.le_of_ble_eq_true rfl) ?_
  intro p e s m below meth c A hx hb hr hml hts hown hlocks htab H hP hD hE hS hA ls hl
  have hK := hE.1
  have hown : s.vm.findClass RL = some m.cls := hown
  have hl : lv_has ls 6 [(0, .ref xo), (1, .int 5), (2, .int x1), (3, .int x2), (4, .int x3)] := hl
  refine lv_iload_n hx hb dL_does_0 rfl (lv_at hl 1 rfl) ?_
  refine lv_if_ne (tgt := 15) hx hb dL_does_1 (by decide) (fun _ => ?_) (fun c_1 => absurd c_1 (by decide))
  refine lv_iload_n hx hb dL_does_15 rfl (lv_at hl 1 rfl) ?_
  refine lv_iconst (v := 1) hx hb dL_does_16 (by decide) ?_
  refine lv_icmp_ne (tgt := 28) hx hb dL_does_17 (by decide) (fun _ => ?_) (fun c_2 => absurd c_2 (by decide))
  refine lv_iload_n hx hb dL_does_28 rfl (lv_at hl 1 rfl) ?_
  refine lv_iconst (v := 2) hx hb dL_does_29 (by decide) ?_
  refine lv_icmp_ne (tgt := 41) hx hb dL_does_30 (by decide) (fun _ => ?_) (fun c_3 => absurd c_3 (by decide))
  refine lv_iload_n hx hb dL_does_41 rfl (lv_at hl 1 rfl) ?_
  refine lv_iconst (v := 3) hx hb dL_does_42 (by decide) ?_
  refine lv_icmp_ne (tgt := 55) hx hb dL_does_43 (by decide) (fun _ => ?_) (fun c_4 => absurd c_4 (by decide))
  refine lv_iload_n hx hb dL_does_55 rfl (lv_at hl 1 rfl) ?_
  refine lv_iconst (v := 4) hx hb dL_does_56 (by decide) ?_
  refine lv_icmp_ne (tgt := 68) hx hb dL_does_57 (by decide) (fun _ => ?_) (fun c_5 => absurd c_5 (by decide))
  refine lv_iload_n hx hb dL_does_68 rfl (lv_at hl 1 rfl) ?_
  refine lv_iconst (v := 5) hx hb dL_does_69 (by decide) ?_
  refine lv_icmp_ne (tgt := 80) hx hb dL_does_70 (by decide) (fun c_6 => absurd (by decide) c_6) (fun _ => ?_)
  refine lv_aload_n hx hb dL_does_73 rfl (lv_at hl 0 rfl) ?_
  refine txV (As := []) (rest := []) ⟨hx, hb, hml, hown, hts⟩ (c_X6_end l D z q xo xb xg xn xt xp xk xf dy na ia g1 y1 g2 y2 g3 y3 g4 y4 ct ti sh pr wt wh t1 r1 t2 r2 lt ty zz po me ml p1 k1 kp sn ps H.size hps hp40 hlt) (cwV 0 hts gL_does_X6_end rfl rfl rfl hd_X6_end ⟨Nat.le_of_ble_eq_true rfl, Nat.le_of_ble_eq_true rfl⟩) hE hS hA hP hD [0, 1, 2, 3, 4, 5, 6, 7, 8, 9, 10, 11, 12, 13, 14, 15, 16, 17, 18, 19] rfl rfl rfl rfl rfl rfl rfl hl.1 rfl (Nat.le_of_ble_eq_true rfl) dL_does_74 ⟨Nat.le_of_ble_eq_true rfl, Nat.le_of_ble_eq_true rfl⟩ (fun E ce q9 H1 locs1 hbd hP hD hS hce hcv hcl => ?_) (fun hok _ _ _ _ _ => (hok e0).elim)
  have hE9 : E = xS := hbd.2
  subst hE9
  refine vx_catch (own := RL) (name := xS) hown [⟨0, 86, 87, 38⟩, ⟨0, 86, 92, 41⟩] ⟨0, 86, 97, 43⟩ [] (by rw [htab]; rfl) (fun z hz => (List.mem_cons.mp hz).elim (fun h => by subst h; exact Or.inr ⟨by decide, _, hts (.classLink RL 38 "java/lang/IndexOutOfBoundsException") (List.mem_of_getElem? (i := 1) rfl), hE.2.2.2.2.2.2.1 _ (List.mem_of_getElem? (i := 1) rfl)⟩) (fun hz => (List.mem_cons.mp hz).elim (fun h => by subst h; exact Or.inr ⟨by decide, _, hts (.classLink RL 41 "java/lang/IllegalArgumentException") (List.mem_of_getElem? (i := 2) rfl), hE.2.2.2.2.2.2.1 _ (List.mem_of_getElem? (i := 2) rfl)⟩) (fun hz => nomatch hz))) rfl (by decide) (hts (.classLink RL 43 "java/lang/IllegalStateException") (List.mem_of_getElem? (i := 3) rfl)) (va_Nw.use rfl (hE.2.2.2.2.2.1 xS xSm)) hce hcv hcl ?_
  refine lv_astore (lv' := [(5, .ref q9), (0, .ref xo), (1, .int 5), (2, .int x1), (3, .int x2), (4, .int x3)]) hx hb dL_does_97 hl (by decide) rfl (fun ls hl => ?_)
  refine lv_ldc (v := (-99999)) hx hb hown (hts (.constant RL 40 (-99999)) (List.mem_of_getElem? (i := 4) rfl)) dL_does_99 ?_
  exact hw_i hx hb hr hlocks hP hD hS dL_does_101 (rfl) rfl (Nat.le_of_ble_eq_true rfl) (Nat.le_of_ble_eq_true rfl)
set_option maxHeartbeats 4000000 in
set_option maxRecDepth 100000 in
theorem c_L_does_5_1 (l : Launch) (D : va_G) (z : Nat → ClassId) (q : Nat → Nat) (xo : Nat) (xb : Nat) (xg : Nat) (xn : Nat) (xt : Nat) (xp : Nat) (xk : Nat) (xf : Nat) (dy : Int32) (na : Nat) (ia : Nat → Int32) (g1 : Nat) (y1 : Nat) (g2 : Nat) (y2 : Nat) (g3 : Nat) (y3 : Nat) (g4 : Nat) (y4 : Nat) (ct : Nat → Int32) (ti : Nat → Int32) (sh : Nat → Int32) (pr : Nat → Int32) (wt : Int32) (wh : Int32) (t1 : Nat) (r1 : Nat) (t2 : Nat) (r2 : Nat) (lt : Nat → Int32) (ty : Nat → Int32) (zz : Int32) (po : Int32) (me : Int32) (ml : Int32) (p1 : Nat) (k1 : Nat) (kp : Nat → Int32) (sn : Int32) (ps : Nat) (x1 : Int32) (x2 : Int32) (x3 : Int32) (sz : Nat) (hps : po = nI ps) (hp40 : ps ≤ 40) (e0 : ¬ (¬ pFull sn = 0)) (hlt : l.stackTraces = false) : HW l yL_does wsL_does ({ frames := 7, cells := 3, slots := 18, locals := 141 } : Room) D z q [.ref xo, .int 5, .int x1, .int x2, .int x3] [(xo, .inr (6, [.ref xb, .ref xg, .ref xn, .ref xt, .ref xp, .ref xk, .ref xf, .int dy])), (xn, .inr (4, [.ref na, .ref xg])), (na, .inl (z 1, 26, .inl ia)), (xg, .inr (2, [.ref g1, .ref g2, .ref g3, .ref g4, .int wt, .int wh])), (g1, .inr (1, [.ref y1])), (y1, .inl (z 0, 26, .inl ct)), (g2, .inr (1, [.ref y2])), (y2, .inl (z 0, 26, .inl ti)), (g3, .inr (1, [.ref y3])), (y3, .inl (z 0, 26, .inl sh)), (g4, .inr (1, [.ref y4])), (y4, .inl (z 0, 676, .inl pr)), (xt, .inr (3, [.ref t1, .ref t2, .int zz, .int po, .int me, .int ml])), (t1, .inr (1, [.ref r1])), (r1, .inl (z 0, 40, .inl lt)), (t2, .inr (1, [.ref r2])), (r2, .inl (z 0, 40, .inl ty)), (xp, .inr (5, [.ref p1, .int sn])), (p1, .inr (1, [.ref k1])), (k1, .inl (z 0, 100, .inl kp))] sz [(xo, .inr (6, [.ref xb, .ref xg, .ref xn, .ref xt, .ref xp, .ref xk, .ref xf, .int dy])), (xn, .inr (4, [.ref na, .ref xg])), (na, .inl (z 1, 26, .inl (lRevI ia ct ti sh wt wh))), (xg, .inr (2, [.ref g1, .ref g2, .ref g3, .ref g4, .int wt, .int wh])), (g1, .inr (1, [.ref y1])), (y1, .inl (z 0, 26, .inl (lM1 ia ct sh ct 0))), (g2, .inr (1, [.ref y2])), (y2, .inl (z 0, 26, .inl (lM1 ia ct sh ti 400))), (g3, .inr (1, [.ref y3])), (y3, .inl (z 0, 26, .inl (lM1 ia ct sh sh 0))), (g4, .inr (1, [.ref y4])), (y4, .inl (z 0, 676, .inl pr)), (xt, .inr (3, [.ref t1, .ref t2, .int 0, .int 0, .int 0, .int 0])), (t1, .inr (1, [.ref r1])), (r1, .inl (z 0, 40, .inl lt)), (t2, .inr (1, [.ref r2])), (r2, .inl (z 0, 40, .inl ty)), (xp, .inr (5, [.ref p1, .int (sn + 1)])), (p1, .inr (1, [.ref k1])), (k1, .inl (z 0, 100, .inl (cSet 100 kp sn (tSpeed lt ty ps ml))))] (some (.int (lRevV ia ct ti sh wt wh))) := by
  refine HW_mk (hh := [(0, 86, 87, 38), (0, 86, 92, 41), (0, 86, 97, 43)]) (cc := cL_does) (maxL := 6) (ret := (some .int)) (by decide) rfl (Nat.le_of_ble_eq_true rfl) ?_
  intro p e s m below meth c A hx hb hr hml hts hown hlocks htab H hP hD hE hS hA ls hl
  have hK := hE.1
  have hown : s.vm.findClass RL = some m.cls := hown
  have hl : lv_has ls 6 [(0, .ref xo), (1, .int 5), (2, .int x1), (3, .int x2), (4, .int x3)] := hl
  refine lv_iload_n hx hb dL_does_0 rfl (lv_at hl 1 rfl) ?_
  refine lv_if_ne (tgt := 15) hx hb dL_does_1 (by decide) (fun _ => ?_) (fun c_1 => absurd c_1 (by decide))
  refine lv_iload_n hx hb dL_does_15 rfl (lv_at hl 1 rfl) ?_
  refine lv_iconst (v := 1) hx hb dL_does_16 (by decide) ?_
  refine lv_icmp_ne (tgt := 28) hx hb dL_does_17 (by decide) (fun _ => ?_) (fun c_2 => absurd c_2 (by decide))
  refine lv_iload_n hx hb dL_does_28 rfl (lv_at hl 1 rfl) ?_
  refine lv_iconst (v := 2) hx hb dL_does_29 (by decide) ?_
  refine lv_icmp_ne (tgt := 41) hx hb dL_does_30 (by decide) (fun _ => ?_) (fun c_3 => absurd c_3 (by decide))
  refine lv_iload_n hx hb dL_does_41 rfl (lv_at hl 1 rfl) ?_
  refine lv_iconst (v := 3) hx hb dL_does_42 (by decide) ?_
  refine lv_icmp_ne (tgt := 55) hx hb dL_does_43 (by decide) (fun _ => ?_) (fun c_4 => absurd c_4 (by decide))
  refine lv_iload_n hx hb dL_does_55 rfl (lv_at hl 1 rfl) ?_
  refine lv_iconst (v := 4) hx hb dL_does_56 (by decide) ?_
  refine lv_icmp_ne (tgt := 68) hx hb dL_does_57 (by decide) (fun _ => ?_) (fun c_5 => absurd c_5 (by decide))
  refine lv_iload_n hx hb dL_does_68 rfl (lv_at hl 1 rfl) ?_
  refine lv_iconst (v := 5) hx hb dL_does_69 (by decide) ?_
  refine lv_icmp_ne (tgt := 80) hx hb dL_does_70 (by decide) (fun c_6 => absurd (by decide) c_6) (fun _ => ?_)
  refine lv_aload_n hx hb dL_does_73 rfl (lv_at hl 0 rfl) ?_
  refine txV (As := []) (rest := []) ⟨hx, hb, hml, hown, hts⟩ (c_X6_end l D z q xo xb xg xn xt xp xk xf dy na ia g1 y1 g2 y2 g3 y3 g4 y4 ct ti sh pr wt wh t1 r1 t2 r2 lt ty zz po me ml p1 k1 kp sn ps H.size hps hp40 hlt) (cwV 0 hts gL_does_X6_end rfl rfl rfl hd_X6_end ⟨Nat.le_of_ble_eq_true rfl, Nat.le_of_ble_eq_true rfl⟩) hE hS hA hP hD [0, 1, 2, 3, 4, 5, 6, 7, 8, 9, 10, 11, 12, 13, 14, 15, 16, 17, 18, 19] rfl rfl rfl rfl rfl rfl rfl hl.1 rfl (Nat.le_of_ble_eq_true rfl) dL_does_74 ⟨Nat.le_of_ble_eq_true rfl, Nat.le_of_ble_eq_true rfl⟩ (fun E ce q9 H1 locs1 hbd _ _ _ _ _ _ => (e0 (hbd.1) : False).elim) (fun _ H locs hP hD hS => ?_)
  have hP : va_P D vwCl [(xo, .inr (6, [.ref xb, .ref xg, .ref xn, .ref xt, .ref xp, .ref xk, .ref xf, .int dy])), (xn, .inr (4, [.ref na, .ref xg])), (na, .inl (z 1, 26, .inl (lRevI ia ct ti sh wt wh))), (xg, .inr (2, [.ref g1, .ref g2, .ref g3, .ref g4, .int wt, .int wh])), (g1, .inr (1, [.ref y1])), (y1, .inl (z 0, 26, .inl (lM1 ia ct sh ct 0))), (g2, .inr (1, [.ref y2])), (y2, .inl (z 0, 26, .inl (lM1 ia ct sh ti 400))), (g3, .inr (1, [.ref y3])), (y3, .inl (z 0, 26, .inl (lM1 ia ct sh sh 0))), (g4, .inr (1, [.ref y4])), (y4, .inl (z 0, 676, .inl pr)), (xt, .inr (3, [.ref t1, .ref t2, .int 0, .int 0, .int 0, .int 0])), (t1, .inr (1, [.ref r1])), (r1, .inl (z 0, 40, .inl lt)), (t2, .inr (1, [.ref r2])), (r2, .inl (z 0, 40, .inl ty)), (xp, .inr (5, [.ref p1, .int (sn + 1)])), (p1, .inr (1, [.ref k1])), (k1, .inl (z 0, 100, .inl (cSet 100 kp sn (tSpeed lt ty ps ml))))] H := hP
  have hD : va_D A [(xo, .inr (6, [.ref xb, .ref xg, .ref xn, .ref xt, .ref xp, .ref xk, .ref xf, .int dy])), (xn, .inr (4, [.ref na, .ref xg])), (na, .inl (z 1, 26, .inl (lRevI ia ct ti sh wt wh))), (xg, .inr (2, [.ref g1, .ref g2, .ref g3, .ref g4, .int wt, .int wh])), (g1, .inr (1, [.ref y1])), (y1, .inl (z 0, 26, .inl (lM1 ia ct sh ct 0))), (g2, .inr (1, [.ref y2])), (y2, .inl (z 0, 26, .inl (lM1 ia ct sh ti 400))), (g3, .inr (1, [.ref y3])), (y3, .inl (z 0, 26, .inl (lM1 ia ct sh sh 0))), (g4, .inr (1, [.ref y4])), (y4, .inl (z 0, 676, .inl pr)), (xt, .inr (3, [.ref t1, .ref t2, .int 0, .int 0, .int 0, .int 0])), (t1, .inr (1, [.ref r1])), (r1, .inl (z 0, 40, .inl lt)), (t2, .inr (1, [.ref r2])), (r2, .inl (z 0, 40, .inl ty)), (xp, .inr (5, [.ref p1, .int (sn + 1)])), (p1, .inr (1, [.ref k1])), (k1, .inl (z 0, 100, .inl (cSet 100 kp sn (tSpeed lt ty ps ml))))] := hD
  refine lv_goto (tgt := 86) hx hb dL_does_77 (by decide) ?_
  exact hw_i hx hb hr hlocks hP hD hS dL_does_86 (rfl) rfl (Nat.le_of_ble_eq_true rfl) (Nat.le_of_ble_eq_true rfl)
set_option maxHeartbeats 4000000 in
set_option maxRecDepth 100000 in
theorem c_L_does_6_0 (l : Launch) (D : va_G) (z : Nat → ClassId) (q : Nat → Nat) (xo : Nat) (xb : Nat) (xg : Nat) (xn : Nat) (xt : Nat) (xp : Nat) (xk : Nat) (xf : Nat) (dy : Int32) (g1 : Nat) (y1 : Nat) (g2 : Nat) (y2 : Nat) (g3 : Nat) (y3 : Nat) (g4 : Nat) (y4 : Nat) (ct : Nat → Int32) (ti : Nat → Int32) (sh : Nat → Int32) (pr : Nat → Int32) (wt : Int32) (wh : Int32) (mo : Int32) (sa : Int32) (x1 : Int32) (sz : Nat) (e0 : bW mo 1 5000 = 0) (hlt : l.stackTraces = false) : HW l yL_does wsL_does ({ frames := 8, cells := 3, slots := 18, locals := 164 } : Room) D z q [.ref xo, .int 6, .int mo, .int sa, .int x1] [(xo, .inr (6, [.ref xb, .ref xg, .ref xn, .ref xt, .ref xp, .ref xk, .ref xf, .int dy])), (xg, .inr (2, [.ref g1, .ref g2, .ref g3, .ref g4, .int wt, .int wh])), (g1, .inr (1, [.ref y1])), (y1, .inl (z 0, 26, .inl ct)), (g2, .inr (1, [.ref y2])), (y2, .inl (z 0, 26, .inl ti)), (g3, .inr (1, [.ref y3])), (y3, .inl (z 0, 26, .inl sh)), (g4, .inr (1, [.ref y4])), (y4, .inl (z 0, 676, .inl pr))] sz [(xo, .inr (6, [.ref xb, .ref xg, .ref xn, .ref xt, .ref xp, .ref xk, .ref xf, .int dy])), (xg, .inr (2, [.ref g1, .ref g2, .ref g3, .ref g4, .int wt, .int wh])), (g1, .inr (1, [.ref y1])), (y1, .inl (z 0, 26, .inl ct)), (g2, .inr (1, [.ref y2])), (y2, .inl (z 0, 26, .inl ti)), (g3, .inr (1, [.ref y3])), (y3, .inl (z 0, 26, .inl sh)), (g4, .inr (1, [.ref y4])), (y4, .inl (z 0, 676, .inl pr))] (some (.int (-99999))) := by
  refine HW_mk (hh := [(0, 86, 87, 38), (0, 86, 92, 41), (0, 86, 97, 43)]) (cc := cL_does) (maxL := 6) (ret := (some .int)) (by decide) rfl (Nat.le_of_ble_eq_true rfl) ?_
  intro p e s m below meth c A hx hb hr hml hts hown hlocks htab H hP hD hE hS hA ls hl
  have hK := hE.1
  have hown : s.vm.findClass RL = some m.cls := hown
  have hl : lv_has ls 6 [(0, .ref xo), (1, .int 6), (2, .int mo), (3, .int sa), (4, .int x1)] := hl
  refine lv_iload_n hx hb dL_does_0 rfl (lv_at hl 1 rfl) ?_
  refine lv_if_ne (tgt := 15) hx hb dL_does_1 (by decide) (fun _ => ?_) (fun c_1 => absurd c_1 (by decide))
  refine lv_iload_n hx hb dL_does_15 rfl (lv_at hl 1 rfl) ?_
  refine lv_iconst (v := 1) hx hb dL_does_16 (by decide) ?_
  refine lv_icmp_ne (tgt := 28) hx hb dL_does_17 (by decide) (fun _ => ?_) (fun c_2 => absurd c_2 (by decide))
  refine lv_iload_n hx hb dL_does_28 rfl (lv_at hl 1 rfl) ?_
  refine lv_iconst (v := 2) hx hb dL_does_29 (by decide) ?_
  refine lv_icmp_ne (tgt := 41) hx hb dL_does_30 (by decide) (fun _ => ?_) (fun c_3 => absurd c_3 (by decide))
  refine lv_iload_n hx hb dL_does_41 rfl (lv_at hl 1 rfl) ?_
  refine lv_iconst (v := 3) hx hb dL_does_42 (by decide) ?_
  refine lv_icmp_ne (tgt := 55) hx hb dL_does_43 (by decide) (fun _ => ?_) (fun c_4 => absurd c_4 (by decide))
  refine lv_iload_n hx hb dL_does_55 rfl (lv_at hl 1 rfl) ?_
  refine lv_iconst (v := 4) hx hb dL_does_56 (by decide) ?_
  refine lv_icmp_ne (tgt := 68) hx hb dL_does_57 (by decide) (fun _ => ?_) (fun c_5 => absurd c_5 (by decide))
  refine lv_iload_n hx hb dL_does_68 rfl (lv_at hl 1 rfl) ?_
  refine lv_iconst (v := 5) hx hb dL_does_69 (by decide) ?_
  refine lv_icmp_ne (tgt := 80) hx hb dL_does_70 (by decide) (fun _ => ?_) (fun c_6 => absurd c_6 (by decide))
  refine lv_aload_n hx hb dL_does_80 rfl (lv_at hl 0 rfl) ?_
  refine lv_iload_n hx hb dL_does_81 rfl (lv_at hl 2 rfl) ?_
  refine lv_iload_n hx hb dL_does_82 rfl (lv_at hl 3 rfl) ?_
  refine txS (As := [.ref xo, .int mo, .int sa]) (rest := []) ⟨hx, hb, hml, hown, hts⟩ (c_L_wish l D z q xo xb xg xn xt xp xk xf dy g1 y1 g2 y2 g3 y3 g4 y4 ct ti sh pr wt wh mo sa H.size hlt) (va_cwS 3 hts gL_does_L_wish rfl rfl rfl hd_L_wish ⟨Nat.le_of_ble_eq_true rfl, Nat.le_of_ble_eq_true rfl⟩) hE hS hA hP hD [0, 1, 2, 3, 4, 5, 6, 7, 8, 9] rfl rfl rfl rfl hl.1 rfl (Nat.le_of_ble_eq_true rfl) dL_does_83 ⟨Nat.le_of_ble_eq_true rfl, Nat.le_of_ble_eq_true rfl⟩ (fun E ce q9 H1 locs1 hbd hP hD hS hce hcv hcl => ?_) (fun hok _ _ _ _ _ => (hok.1 e0).elim)
  have hE9 : E = xA := hbd.elim (fun h0 => h0.2) (fun h0 => (h0.1 e0).elim)
  subst hE9
  refine vx_catch (own := RL) (name := xA) hown [⟨0, 86, 87, 38⟩] ⟨0, 86, 92, 41⟩ [⟨0, 86, 97, 43⟩] (by rw [htab]; rfl) (fun z hz => (List.mem_cons.mp hz).elim (fun h => by subst h; exact Or.inr ⟨by decide, _, hts (.classLink RL 38 "java/lang/IndexOutOfBoundsException") (List.mem_of_getElem? (i := 1) rfl), hE.2.2.2.2.2.2.1 _ (List.mem_of_getElem? (i := 0) rfl)⟩) (fun hz => nomatch hz)) rfl (by decide) (hts (.classLink RL 41 "java/lang/IllegalArgumentException") (List.mem_of_getElem? (i := 2) rfl)) (va_Nw.use rfl (hE.2.2.2.2.2.1 xA xAm)) hce hcv hcl ?_
  refine lv_astore (lv' := [(5, .ref q9), (0, .ref xo), (1, .int 6), (2, .int mo), (3, .int sa), (4, .int x1)]) hx hb dL_does_92 hl (by decide) rfl (fun ls hl => ?_)
  refine lv_ldc (v := (-99999)) hx hb hown (hts (.constant RL 40 (-99999)) (List.mem_of_getElem? (i := 4) rfl)) dL_does_94 ?_
  exact hw_i hx hb hr hlocks hP hD hS dL_does_96 (rfl) rfl (Nat.le_of_ble_eq_true rfl) (Nat.le_of_ble_eq_true rfl)
set_option maxHeartbeats 4000000 in
set_option maxRecDepth 100000 in
theorem c_L_does_6_1 (l : Launch) (D : va_G) (z : Nat → ClassId) (q : Nat → Nat) (xo : Nat) (xb : Nat) (xg : Nat) (xn : Nat) (xt : Nat) (xp : Nat) (xk : Nat) (xf : Nat) (dy : Int32) (g1 : Nat) (y1 : Nat) (g2 : Nat) (y2 : Nat) (g3 : Nat) (y3 : Nat) (g4 : Nat) (y4 : Nat) (ct : Nat → Int32) (ti : Nat → Int32) (sh : Nat → Int32) (pr : Nat → Int32) (wt : Int32) (wh : Int32) (mo : Int32) (sa : Int32) (x1 : Int32) (sz : Nat) (e0 : ¬ bW mo 1 5000 = 0) (e1 : bW sa 0 10000 = 0) (hlt : l.stackTraces = false) : HW l yL_does wsL_does ({ frames := 8, cells := 3, slots := 18, locals := 164 } : Room) D z q [.ref xo, .int 6, .int mo, .int sa, .int x1] [(xo, .inr (6, [.ref xb, .ref xg, .ref xn, .ref xt, .ref xp, .ref xk, .ref xf, .int dy])), (xg, .inr (2, [.ref g1, .ref g2, .ref g3, .ref g4, .int wt, .int wh])), (g1, .inr (1, [.ref y1])), (y1, .inl (z 0, 26, .inl ct)), (g2, .inr (1, [.ref y2])), (y2, .inl (z 0, 26, .inl ti)), (g3, .inr (1, [.ref y3])), (y3, .inl (z 0, 26, .inl sh)), (g4, .inr (1, [.ref y4])), (y4, .inl (z 0, 676, .inl pr))] sz [(xo, .inr (6, [.ref xb, .ref xg, .ref xn, .ref xt, .ref xp, .ref xk, .ref xf, .int dy])), (xg, .inr (2, [.ref g1, .ref g2, .ref g3, .ref g4, .int wt, .int wh])), (g1, .inr (1, [.ref y1])), (y1, .inl (z 0, 26, .inl ct)), (g2, .inr (1, [.ref y2])), (y2, .inl (z 0, 26, .inl ti)), (g3, .inr (1, [.ref y3])), (y3, .inl (z 0, 26, .inl sh)), (g4, .inr (1, [.ref y4])), (y4, .inl (z 0, 676, .inl pr))] (some (.int (-99999))) := by
  refine HW_mk (hh := [(0, 86, 87, 38), (0, 86, 92, 41), (0, 86, 97, 43)]) (cc := cL_does) (maxL := 6) (ret := (some .int)) (by decide) rfl (Nat.le_of_ble_eq_true rfl) ?_
  intro p e s m below meth c A hx hb hr hml hts hown hlocks htab H hP hD hE hS hA ls hl
  have hK := hE.1
  have hown : s.vm.findClass RL = some m.cls := hown
  have hl : lv_has ls 6 [(0, .ref xo), (1, .int 6), (2, .int mo), (3, .int sa), (4, .int x1)] := hl
  refine lv_iload_n hx hb dL_does_0 rfl (lv_at hl 1 rfl) ?_
  refine lv_if_ne (tgt := 15) hx hb dL_does_1 (by decide) (fun _ => ?_) (fun c_1 => absurd c_1 (by decide))
  refine lv_iload_n hx hb dL_does_15 rfl (lv_at hl 1 rfl) ?_
  refine lv_iconst (v := 1) hx hb dL_does_16 (by decide) ?_
  refine lv_icmp_ne (tgt := 28) hx hb dL_does_17 (by decide) (fun _ => ?_) (fun c_2 => absurd c_2 (by decide))
  refine lv_iload_n hx hb dL_does_28 rfl (lv_at hl 1 rfl) ?_
  refine lv_iconst (v := 2) hx hb dL_does_29 (by decide) ?_
  refine lv_icmp_ne (tgt := 41) hx hb dL_does_30 (by decide) (fun _ => ?_) (fun c_3 => absurd c_3 (by decide))
  refine lv_iload_n hx hb dL_does_41 rfl (lv_at hl 1 rfl) ?_
  refine lv_iconst (v := 3) hx hb dL_does_42 (by decide) ?_
  refine lv_icmp_ne (tgt := 55) hx hb dL_does_43 (by decide) (fun _ => ?_) (fun c_4 => absurd c_4 (by decide))
  refine lv_iload_n hx hb dL_does_55 rfl (lv_at hl 1 rfl) ?_
  refine lv_iconst (v := 4) hx hb dL_does_56 (by decide) ?_
  refine lv_icmp_ne (tgt := 68) hx hb dL_does_57 (by decide) (fun _ => ?_) (fun c_5 => absurd c_5 (by decide))
  refine lv_iload_n hx hb dL_does_68 rfl (lv_at hl 1 rfl) ?_
  refine lv_iconst (v := 5) hx hb dL_does_69 (by decide) ?_
  refine lv_icmp_ne (tgt := 80) hx hb dL_does_70 (by decide) (fun _ => ?_) (fun c_6 => absurd c_6 (by decide))
  refine lv_aload_n hx hb dL_does_80 rfl (lv_at hl 0 rfl) ?_
  refine lv_iload_n hx hb dL_does_81 rfl (lv_at hl 2 rfl) ?_
  refine lv_iload_n hx hb dL_does_82 rfl (lv_at hl 3 rfl) ?_
  refine txS (As := [.ref xo, .int mo, .int sa]) (rest := []) ⟨hx, hb, hml, hown, hts⟩ (c_L_wish l D z q xo xb xg xn xt xp xk xf dy g1 y1 g2 y2 g3 y3 g4 y4 ct ti sh pr wt wh mo sa H.size hlt) (va_cwS 3 hts gL_does_L_wish rfl rfl rfl hd_L_wish ⟨Nat.le_of_ble_eq_true rfl, Nat.le_of_ble_eq_true rfl⟩) hE hS hA hP hD [0, 1, 2, 3, 4, 5, 6, 7, 8, 9] rfl rfl rfl rfl hl.1 rfl (Nat.le_of_ble_eq_true rfl) dL_does_83 ⟨Nat.le_of_ble_eq_true rfl, Nat.le_of_ble_eq_true rfl⟩ (fun E ce q9 H1 locs1 hbd hP hD hS hce hcv hcl => ?_) (fun hok _ _ _ _ _ => (hok.2 e1).elim)
  have hE9 : E = xA := hbd.elim (fun h0 => absurd (h0.1) e0) (fun h0 => h0.2.2)
  subst hE9
  refine vx_catch (own := RL) (name := xA) hown [⟨0, 86, 87, 38⟩] ⟨0, 86, 92, 41⟩ [⟨0, 86, 97, 43⟩] (by rw [htab]; rfl) (fun z hz => (List.mem_cons.mp hz).elim (fun h => by subst h; exact Or.inr ⟨by decide, _, hts (.classLink RL 38 "java/lang/IndexOutOfBoundsException") (List.mem_of_getElem? (i := 1) rfl), hE.2.2.2.2.2.2.1 _ (List.mem_of_getElem? (i := 0) rfl)⟩) (fun hz => nomatch hz)) rfl (by decide) (hts (.classLink RL 41 "java/lang/IllegalArgumentException") (List.mem_of_getElem? (i := 2) rfl)) (va_Nw.use rfl (hE.2.2.2.2.2.1 xA xAm)) hce hcv hcl ?_
  refine lv_astore (lv' := [(5, .ref q9), (0, .ref xo), (1, .int 6), (2, .int mo), (3, .int sa), (4, .int x1)]) hx hb dL_does_92 hl (by decide) rfl (fun ls hl => ?_)
  refine lv_ldc (v := (-99999)) hx hb hown (hts (.constant RL 40 (-99999)) (List.mem_of_getElem? (i := 4) rfl)) dL_does_94 ?_
  exact hw_i hx hb hr hlocks hP hD hS dL_does_96 (rfl) rfl (Nat.le_of_ble_eq_true rfl) (Nat.le_of_ble_eq_true rfl)
set_option maxHeartbeats 4000000 in
set_option maxRecDepth 100000 in
theorem c_L_does_6_2 (l : Launch) (D : va_G) (z : Nat → ClassId) (q : Nat → Nat) (xo : Nat) (xb : Nat) (xg : Nat) (xn : Nat) (xt : Nat) (xp : Nat) (xk : Nat) (xf : Nat) (dy : Int32) (g1 : Nat) (y1 : Nat) (g2 : Nat) (y2 : Nat) (g3 : Nat) (y3 : Nat) (g4 : Nat) (y4 : Nat) (ct : Nat → Int32) (ti : Nat → Int32) (sh : Nat → Int32) (pr : Nat → Int32) (wt : Int32) (wh : Int32) (mo : Int32) (sa : Int32) (x1 : Int32) (sz : Nat) (e0 : ¬ bW mo 1 5000 = 0) (e1 : ¬ bW sa 0 10000 = 0) (hlt : l.stackTraces = false) : HW l yL_does wsL_does ({ frames := 8, cells := 3, slots := 18, locals := 164 } : Room) D z q [.ref xo, .int 6, .int mo, .int sa, .int x1] [(xo, .inr (6, [.ref xb, .ref xg, .ref xn, .ref xt, .ref xp, .ref xk, .ref xf, .int dy])), (xg, .inr (2, [.ref g1, .ref g2, .ref g3, .ref g4, .int wt, .int wh])), (g1, .inr (1, [.ref y1])), (y1, .inl (z 0, 26, .inl ct)), (g2, .inr (1, [.ref y2])), (y2, .inl (z 0, 26, .inl ti)), (g3, .inr (1, [.ref y3])), (y3, .inl (z 0, 26, .inl sh)), (g4, .inr (1, [.ref y4])), (y4, .inl (z 0, 676, .inl pr))] sz [(xo, .inr (6, [.ref xb, .ref xg, .ref xn, .ref xt, .ref xp, .ref xk, .ref xf, .int dy])), (xg, .inr (2, [.ref g1, .ref g2, .ref g3, .ref g4, .int mo, .int sa])), (g1, .inr (1, [.ref y1])), (y1, .inl (z 0, 26, .inl ct)), (g2, .inr (1, [.ref y2])), (y2, .inl (z 0, 26, .inl ti)), (g3, .inr (1, [.ref y3])), (y3, .inl (z 0, 26, .inl sh)), (g4, .inr (1, [.ref y4])), (y4, .inl (z 0, 676, .inl pr))] (some (.int 0)) := by
  refine HW_mk (hh := [(0, 86, 87, 38), (0, 86, 92, 41), (0, 86, 97, 43)]) (cc := cL_does) (maxL := 6) (ret := (some .int)) (by decide) rfl (Nat.le_of_ble_eq_true rfl) ?_
  intro p e s m below meth c A hx hb hr hml hts hown hlocks htab H hP hD hE hS hA ls hl
  have hK := hE.1
  have hown : s.vm.findClass RL = some m.cls := hown
  have hl : lv_has ls 6 [(0, .ref xo), (1, .int 6), (2, .int mo), (3, .int sa), (4, .int x1)] := hl
  refine lv_iload_n hx hb dL_does_0 rfl (lv_at hl 1 rfl) ?_
  refine lv_if_ne (tgt := 15) hx hb dL_does_1 (by decide) (fun _ => ?_) (fun c_1 => absurd c_1 (by decide))
  refine lv_iload_n hx hb dL_does_15 rfl (lv_at hl 1 rfl) ?_
  refine lv_iconst (v := 1) hx hb dL_does_16 (by decide) ?_
  refine lv_icmp_ne (tgt := 28) hx hb dL_does_17 (by decide) (fun _ => ?_) (fun c_2 => absurd c_2 (by decide))
  refine lv_iload_n hx hb dL_does_28 rfl (lv_at hl 1 rfl) ?_
  refine lv_iconst (v := 2) hx hb dL_does_29 (by decide) ?_
  refine lv_icmp_ne (tgt := 41) hx hb dL_does_30 (by decide) (fun _ => ?_) (fun c_3 => absurd c_3 (by decide))
  refine lv_iload_n hx hb dL_does_41 rfl (lv_at hl 1 rfl) ?_
  refine lv_iconst (v := 3) hx hb dL_does_42 (by decide) ?_
  refine lv_icmp_ne (tgt := 55) hx hb dL_does_43 (by decide) (fun _ => ?_) (fun c_4 => absurd c_4 (by decide))
  refine lv_iload_n hx hb dL_does_55 rfl (lv_at hl 1 rfl) ?_
  refine lv_iconst (v := 4) hx hb dL_does_56 (by decide) ?_
  refine lv_icmp_ne (tgt := 68) hx hb dL_does_57 (by decide) (fun _ => ?_) (fun c_5 => absurd c_5 (by decide))
  refine lv_iload_n hx hb dL_does_68 rfl (lv_at hl 1 rfl) ?_
  refine lv_iconst (v := 5) hx hb dL_does_69 (by decide) ?_
  refine lv_icmp_ne (tgt := 80) hx hb dL_does_70 (by decide) (fun _ => ?_) (fun c_6 => absurd c_6 (by decide))
  refine lv_aload_n hx hb dL_does_80 rfl (lv_at hl 0 rfl) ?_
  refine lv_iload_n hx hb dL_does_81 rfl (lv_at hl 2 rfl) ?_
  refine lv_iload_n hx hb dL_does_82 rfl (lv_at hl 3 rfl) ?_
  refine txS (As := [.ref xo, .int mo, .int sa]) (rest := []) ⟨hx, hb, hml, hown, hts⟩ (c_L_wish l D z q xo xb xg xn xt xp xk xf dy g1 y1 g2 y2 g3 y3 g4 y4 ct ti sh pr wt wh mo sa H.size hlt) (va_cwS 3 hts gL_does_L_wish rfl rfl rfl hd_L_wish ⟨Nat.le_of_ble_eq_true rfl, Nat.le_of_ble_eq_true rfl⟩) hE hS hA hP hD [0, 1, 2, 3, 4, 5, 6, 7, 8, 9] rfl rfl rfl rfl hl.1 rfl (Nat.le_of_ble_eq_true rfl) dL_does_83 ⟨Nat.le_of_ble_eq_true rfl, Nat.le_of_ble_eq_true rfl⟩ (fun E ce q9 H1 locs1 hbd _ _ _ _ _ _ => (hbd.elim (fun h0 => e0 (h0.1)) (fun h0 => e1 (h0.2.1)) : False).elim) (fun _ H locs hP hD hS => ?_)
  have hP : va_P D vwCl [(xo, .inr (6, [.ref xb, .ref xg, .ref xn, .ref xt, .ref xp, .ref xk, .ref xf, .int dy])), (xg, .inr (2, [.ref g1, .ref g2, .ref g3, .ref g4, .int mo, .int sa])), (g1, .inr (1, [.ref y1])), (y1, .inl (z 0, 26, .inl ct)), (g2, .inr (1, [.ref y2])), (y2, .inl (z 0, 26, .inl ti)), (g3, .inr (1, [.ref y3])), (y3, .inl (z 0, 26, .inl sh)), (g4, .inr (1, [.ref y4])), (y4, .inl (z 0, 676, .inl pr))] H := hP
  have hD : va_D A [(xo, .inr (6, [.ref xb, .ref xg, .ref xn, .ref xt, .ref xp, .ref xk, .ref xf, .int dy])), (xg, .inr (2, [.ref g1, .ref g2, .ref g3, .ref g4, .int mo, .int sa])), (g1, .inr (1, [.ref y1])), (y1, .inl (z 0, 26, .inl ct)), (g2, .inr (1, [.ref y2])), (y2, .inl (z 0, 26, .inl ti)), (g3, .inr (1, [.ref y3])), (y3, .inl (z 0, 26, .inl sh)), (g4, .inr (1, [.ref y4])), (y4, .inl (z 0, 676, .inl pr))] := hD
  exact hw_i hx hb hr hlocks hP hD hS dL_does_86 (rfl) rfl (Nat.le_of_ble_eq_true rfl) (Nat.le_of_ble_eq_true rfl)
