/-! ===== methods that throw ===== -/
def xI : String := "java/lang/IndexOutOfBoundsException"
def xA : String := "java/lang/IllegalArgumentException"
def xS : String := "java/lang/IllegalStateException"
abbrev xN : List String := ["java/lang/RuntimeException", "java/lang/Exception"]
def bW (v a b : Int32) : Int32 := if v < a then 0 else if b < v then 0 else 1
abbrev TS (l : Launch) (y : MethodName) (ws : List Cond) (rm : Room) (D : va_G) (z : Nat → ClassId) (q : Nat → Nat) (As : List Value) (ok : Prop) (bad : String → Prop) : Prop := vx_Met l y ws rm (va_Pc As (RP D z q [])) (fun a st o t => ok ∧ QR none a st o t) (XK bad) 1 6 (fun _ => False)
abbrev TX (l : Launch) (y : MethodName) (ws : List Cond) (rm : Room) (D : va_G) (z : Nat → ClassId) (q : Nat → Nat) (As : List Value) (w : va_W) (sz : Nat) (w1 : va_W) (v : Option Value) (ok : Prop) (bad : String → Prop) : Prop := vx_Met l y ws rm (va_Pc As (WP D z q w sz)) (fun a st o t => ok ∧ QW D w1 (va_A w sz) v a st o t) (XK bad) 3 18 (va_A w sz)
theorem TS_mk {l : Launch} {y : MethodName} {ws ws' : List Cond} {rm : Room} {cc : ByteArray} {maxL : Nat} {ret : Option FieldType} {D : va_G} {z : Nat → ClassId} {q : Nat → Nat} {As : List Value} {ok : Prop} {bad : String → Prop} (hy : plainName y.cls = true) (hw : ws = Cond.code y cc maxL ret :: ws') (hn : (lg_sl As).length ≤ maxL)
    (body : ∀ (p : Program) (e : Env) (s : State) (m : MethodId) (below : List Frame) (meth : Method) (c : Code), p.tables.exec = Jvm.exec → c.code = cc → meth.sig.returnType = ret → c.maxLocals = maxL → (∀ w ∈ ws, w.before As.toArray s = true) → s.vm.findClass y.cls = some m.cls → meth.locks = false → (∀ x ∈ c.exceptionTable.toList, False) → va_P D vwCl [] s.heap → EV D z q (fun x => s.heap.size ≤ x) s s.heap → va_S (fun x => s.heap.size ≤ x) s.heap s.heap [] → (∀ x : Nat, s.heap.size ≤ x → (fun x => s.heap.size ≤ x) x) →
      ∀ ls : Array Slot, lv_has ls maxL (lv_args 0 As) → W p l e rm s m As.toArray below meth c s.heap [] 0 0 (vx_MQ below (fun a st o t => ok ∧ QR none a st o t) (XK bad) As.toArray s 1 6 (fun _ => False)) (F0 m 0 ls [])) : TS l y ws rm D z q As ok bad := by
  refine vx_ofW (cc := cc) (maxL := maxL) (ret := ret) hy hw ?_
  intro p e s m args below meth c s₁ B hml ht hv
  obtain ⟨rfl, hP, hE⟩ := hv
  rw [lg_entry_eq]
  exact body p e s m below meth c B.exec B.bytes B.returns hml (atoms_spec (ws := ws) B.pre) (findClass_of_methodNamed B.named) B.notSynchronized ht hP hE va_S.rf (fun _ h => h) _ (lv_entry As hn)
theorem TX_mk {l : Launch} {y : MethodName} {ws ws' : List Cond} {rm : Room} {cc : ByteArray} {maxL mc ms : Nat} {ret : Option FieldType} {D : va_G} {z : Nat → ClassId} {q : Nat → Nat} {As : List Value} {w : va_W} {sz : Nat} {Qc : (Nat → Prop) → Array Value → State → Outcome → State → Prop} {XC : String → State → State → Prop} (hy : plainName y.cls = true) (hw : ws = Cond.code y cc maxL ret :: ws') (hn : (lg_sl As).length ≤ maxL)
    (body : ∀ (p : Program) (e : Env) (s : State) (m : MethodId) (below : List Frame) (meth : Method) (c : Code) (A : Nat → Prop), p.tables.exec = Jvm.exec → c.code = cc → meth.sig.returnType = ret → c.maxLocals = maxL → (∀ w ∈ ws, w.before As.toArray s = true) → s.vm.findClass y.cls = some m.cls → meth.locks = false → (∀ x ∈ c.exceptionTable.toList, False) → ∀ H : Heap, H = s.heap → va_P D vwCl w H → va_D A w → EV D z q A s s.heap → va_S A s.heap H [] → (∀ x : Nat, s.heap.size ≤ x → A x) →
      ∀ ls : Array Slot, lv_has ls maxL (lv_args 0 As) → W p l e rm s m As.toArray below meth c H [] 0 0 (vx_MQ below (Qc A) XC As.toArray s mc ms A) (F0 m 0 ls [])) : vx_Met l y ws rm (va_Pc As (WP D z q w sz)) (Qc (va_A w sz)) XC mc ms (va_A w sz) := by
  refine vx_ofW (cc := cc) (maxL := maxL) (ret := ret) hy hw ?_
  intro p e s m args below meth c s₁ B hml ht hv
  obtain ⟨rfl, rfl, hP, hD, hE⟩ := hv
  rw [lg_entry_eq]
  exact body p e s m below meth c (va_A w s.heap.size) B.exec B.bytes B.returns hml (atoms_spec (ws := ws) B.pre) (findClass_of_methodNamed B.named) B.notSynchronized ht s.heap rfl hP hD.self hE va_S.rf (fun _ h => Or.inr h) _ (lv_entry As hn)
section THR
variable {p : Program} {l : Launch} {e : Env} {R : Room} {s : State} {m : MethodId} {args : Array Value} {below : List Frame} {meth : Method} {c : Code} {H : Heap} {locs : List Loc} {cells slots : Nat} {Q : State → Prop}
variable {D : va_G} {z : Nat → ClassId} {q : Nat → Nat} {A : Nat → Prop} {cc bytes : ByteArray} {pc nL maxL index n : Nat} {ls : Array Slot} {Ts ws ws' : List Cond} {own C : String} {y : MethodName} {ret : Option FieldType} {rm : Room} {b : Nat} {As rest st : List Value}
variable {Qc : Array Value → State → Outcome → State → Prop} {mc ms : Nat} {free : Addr → Prop}
theorem ts_v {ok : Prop} {bad : String → Prop} (hx : p.tables.exec = Jvm.exec) (hb : c.code = cc) (hr : meth.sig.returnType = none) (hlocks : meth.locks = false) (hd : decode cc pc = .ok (.return_, 1)) (hok : ok) :
    W p l e R s m args below meth c s.heap [] 0 0 (vx_MQ below (fun a st o t => ok ∧ QR none a st o t) (XK bad) args s 1 6 (fun _ => False)) (F0 m pc ls []) :=
  vx_ret (W.widen (Nat.zero_le _) (Nat.zero_le _) (W.vret hx hb hr (fun t ht _ => ⟨hok, rfl, ht⟩) (fun _ h => nomatch h) hd hlocks))
theorem tx_v {w1 w2 : va_W} {ok : Prop} {XC : String → State → State → Prop} (hx : p.tables.exec = Jvm.exec) (hb : c.code = cc) (hr : meth.sig.returnType = none) (hlocks : meth.locks = false) (hP : va_P D vwCl w2 H) (hD : va_D A w2) (hS : va_S A s.heap H locs) (hd : decode cc pc = .ok (.return_, 1)) (hok : ok) (hw : w2 = w1) (hc : cells ≤ mc) (hs : slots ≤ ms) :
    W p l e R s m args below meth c H locs cells slots (vx_MQ below (fun a st o t => ok ∧ QW D w1 A none a st o t) XC args s mc ms A) (F0 m pc ls []) := by
  subst hw
  exact vx_ret (W.widen hc hs (W.vret hx hb hr (fun t ht _ => ⟨hok, ⟨rfl, by rw [ht]; exact hP, hD⟩, hS.F ht⟩) hS.2.2 hd hlocks))
theorem tx_i {w1 w2 : va_W} {v x : Int32} {ok : Prop} {XC : String → State → State → Prop} (hx : p.tables.exec = Jvm.exec) (hb : c.code = cc) (hr : meth.sig.returnType = some .int) (hlocks : meth.locks = false) (hP : va_P D vwCl w2 H) (hD : va_D A w2) (hS : va_S A s.heap H locs) (hd : decode cc pc = .ok (.ireturn, 1)) (hok : ok) (hw : w2 = w1) (hv : x = v) (hc : cells ≤ mc) (hs : slots ≤ ms) :
    W p l e R s m args below meth c H locs cells slots (vx_MQ below (fun a st o t => ok ∧ QW D w1 A (some (.int v)) a st o t) XC args s mc ms A) (F0 m pc ls [.int x]) := by
  subst hw; subst hv
  exact vx_ret (W.widen hc hs (W.iret hx hb hr (fun t ht _ => ⟨hok, ⟨rfl, by rw [ht]; exact hP, hD⟩, hS.F ht⟩) hS.2.2 hd hlocks))
theorem tx_z {w1 w2 : va_W} {v x : Int32} {ok : Prop} {XC : String → State → State → Prop} (hx : p.tables.exec = Jvm.exec) (hb : c.code = cc) (hr : meth.sig.returnType = some .boolean) (hlocks : meth.locks = false) (hn : narrow .boolean (.int x) = .int x) (hP : va_P D vwCl w2 H) (hD : va_D A w2) (hS : va_S A s.heap H locs) (hd : decode cc pc = .ok (.ireturn, 1)) (hok : ok) (hw : w2 = w1) (hv : x = v) (hc : cells ≤ mc) (hs : slots ≤ ms) :
    W p l e R s m args below meth c H locs cells slots (vx_MQ below (fun a st o t => ok ∧ QW D w1 A (some (.int v)) a st o t) XC args s mc ms A) (F0 m pc ls [.int x]) := by
  subst hw; subst hv
  exact vx_ret (W.widen hc hs (W.zret hx hb hr hn (fun t ht _ => ⟨hok, ⟨rfl, by rw [ht]; exact hP, hD⟩, hS.F ht⟩) hS.2.2 hd hlocks))
/-- a call of a static method that may throw, ahead of all writes; what it throws goes on to the caller -/
theorem tsS {wx : va_W} {ok : Prop} {bad bad1 : String → Prop} (S : CallFix p m c cc nL s args Ts own) (hM : TS l y ws rm D z q As ok bad1) (cw : CallB R s args own index y bytes maxL none ws rm 1 6 n ∧ (Cond.static y).before args s = true)
    (hE : EV D z q A s s.heap) (hS : va_S A s.heap H []) (hA : ∀ x : Nat, s.heap.size ≤ x → A x) (hP : va_P D vwCl wx H) (hH0 : H = s.heap) (hout : ∀ x ∈ c.exceptionTable.toList, False) (hlocks : meth.locks = false)
    (hn : As.length = n) (hsz : ls.size = nL) (hst : st = As.reverse ++ rest) (hW : (rest.map fun v => v.category).sum ≤ 8) (hdg : decode cc pc = .ok (.invokestatic index, 3)) (hf : cells + 1 ≤ R.cells ∧ slots + 6 ≤ R.slots) (hbad : ∀ E, bad1 E → bad E) (hmc : cells + 1 ≤ mc) (hms : slots + 6 ≤ ms)
    (kk : ok → W p l e R s m args below meth c H [] (cells + 1) (slots + 6) (vx_MQ below Qc (XK bad) args s mc ms free) (F0 m (pc + 3) ls rest)) : W p l e R s m args below meth c H [] cells slots (vx_MQ below Qc (XK bad) args s mc ms free) (F0 m pc ls st) := by
  have hPc : va_P D vwCl [] H := fun k q h => by simp at h
  intro T hT X
  rcases vx_runS S hM cw ⟨RP_blind, fun U hU hW => ⟨rfl, RP_of (wx := wx) hE hS hA hPc hU hW⟩⟩ rfl hn hsz hst (lv_room hW) hdg hf T hT X with ⟨v, st₀, t, T', L, h0, X', hL, e1, e2, ⟨hok, hv, hh⟩, st⟩ | ⟨q9, st₀, t, T', L, E, ce, h0, X', hL, e1, e2, ⟨hb1, hF⟩, hce, hcv, hcl, st⟩
  · cases hv
    obtain ⟨t2, a1, b1⟩ := kk hok T' (by rw [e1, hh, h0]) (Stand.forget X' (fun q h => (hL q h).elim))
    exact ⟨t2, st t2 a1, b1⟩
  · rw [va_F, h0, hH0] at hF
    obtain ⟨t2, a1, b1⟩ := vx_out (Qc := Qc) (XC := XK bad) (free := free) (mc := mc) (ms := ms) (pc := pc) (rest := rest) (ls := ls) (H := T'.heap) (fun x hx => (hout x hx).elim) hlocks (by rw [e1]; exact hce) hcv hcl (fun t9 h9 _ => ⟨hbad E hb1, by rw [h9, e1]; exact hF.1, fun q h1 h2 => by rw [h9, e1]; exact hF.2 q h1 h2⟩) (fun z hz => by
      rcases List.mem_append.mp hz with h | h
      · cases h
      · exact (hL z h).elim) hmc hms T' rfl X'
    exact ⟨t2, st.trans a1, b1⟩
end THR
theorem gd74 : ∀ w ∈ Cond.classLink RX6 70 xI :: Cond.initialized xI :: vx_atS RX6 74 xI xN, vx_ot w = true := by decide +kernel
theorem gd100 : ∀ w ∈ Cond.classLink RX6 96 xS :: Cond.initialized xS :: vx_atS RX6 100 xS xN, vx_ot w = true := by decide +kernel
theorem gd111 : ∀ w ∈ Cond.classLink RX6 107 xA :: Cond.initialized xA :: vx_atS RX6 111 xA xN, vx_ot w = true := by decide +kernel
theorem ng74 : ∀ w ∈ (vx_atS RX6 74 xI xN).filter (fun w => !goodWord w), w ∈ [Cond.castable xI xI, Cond.declares (Bundle.initS "java/lang/RuntimeException"), Cond.declares (Bundle.initS "java/lang/Exception"), Cond.declares (Bundle.initS Bundle.tN)] := by decide +kernel
theorem ng100 : ∀ w ∈ (vx_atS RX6 100 xS xN).filter (fun w => !goodWord w), w ∈ [Cond.castable xS xS, Cond.declares (Bundle.initS "java/lang/RuntimeException"), Cond.declares (Bundle.initS "java/lang/Exception"), Cond.declares (Bundle.initS Bundle.tN)] := by decide +kernel
theorem ng111 : ∀ w ∈ (vx_atS RX6 111 xA xN).filter (fun w => !goodWord w), w ∈ [Cond.castable xA xA, Cond.declares (Bundle.initS "java/lang/RuntimeException"), Cond.declares (Bundle.initS "java/lang/Exception"), Cond.declares (Bundle.initS Bundle.tN)] := by decide +kernel
/-- the words of 'new X(text)' that a throwing method needs, out of its own and the environment's -/
theorem hat_of {D : va_G} {z : Nat → ClassId} {q : Nat → Nat} {A : Nat → Prop} {s : State} {H : Heap} {args : Array Value} {L : List Cond} {X : String} (hE : EV D z q A s H) (hX : X ∈ excL) (hn : ∀ w ∈ L.filter (fun w => !goodWord w), w ∈ [Cond.castable X X, Cond.declares (Bundle.initS "java/lang/RuntimeException"), Cond.declares (Bundle.initS "java/lang/Exception"), Cond.declares (Bundle.initS Bundle.tN)])
    (hg : ∀ w ∈ L.filter goodWord, w.before args s = true) : ∀ w ∈ L, w.before args s = true :=
  vx_hat hg hn (vx_c (va_Nw.use rfl (hE.2.2.2.2.2.1 X hX)) (vx_c (va_Nw.use rfl (hE.2.2.2.2.2.2.2 _ (List.mem_of_getElem? (i := 0) rfl))) (vx_c (va_Nw.use rfl (hE.2.2.2.2.2.2.2 _ (List.mem_of_getElem? (i := 1) rfl))) (vx_c (va_Nw.use rfl (hE.2.2.2.2.2.2.2 _ (List.mem_of_getElem? (i := 2) rfl))) vx_n))))
theorem xIm : xI ∈ excL := List.mem_of_getElem? (i := 0) rfl
theorem xAm : xA ∈ excL := List.mem_of_getElem? (i := 1) rfl
theorem xSm : xS ∈ excL := List.mem_of_getElem? (i := 2) rfl
theorem fitN : ∀ n ∈ xN, Bundle.fit n = true := by decide +kernel
theorem fitI : Bundle.fit xI = true := by decide +kernel
theorem fitA : Bundle.fit xA = true := by decide +kernel
theorem fitS : Bundle.fit xS = true := by decide +kernel
/-- 'throw new X(text)', ahead of all writes -/
theorem thr {p : Program} {l : Launch} {e : Env} {R : Room} {s : State} {m : MethodId} {args : Array Value} {below : List Frame} {meth : Method} {c : Code} {H : Heap} {cells slots : Nat} {D : va_G} {z : Nat → ClassId} {q : Nat → Nat} {A : Nat → Prop} {cc : ByteArray} {pc nL : Nat} {ls : Array Slot} {rest : List Value} {Qc : Array Value → State → Outcome → State → Prop} {mc ms : Nat} {free : Addr → Prop} {bad : String → Prop}
    (hx : p.tables.exec = Jvm.exec) (hb : c.code = cc) (hl : l.stackTraces = false) {cls text : String} {ik is ic : Nat} (hown : s.vm.findClass RX6 = some m.cls) (hcls : Bundle.fit cls = true) (hX : cls ∈ excL)
    (hk : (Cond.classLink RX6 ik cls).before args s = true) (hini : (Cond.initialized cls).before args s = true) (htx : (is, text) ∈ textL) (hn : ∀ w ∈ (vx_atS RX6 ic cls xN).filter (fun w => !goodWord w), w ∈ [Cond.castable cls cls, Cond.declares (Bundle.initS "java/lang/RuntimeException"), Cond.declares (Bundle.initS "java/lang/Exception"), Cond.declares (Bundle.initS Bundle.tN)]) (hg : ∀ w ∈ (vx_atS RX6 ic cls xN).filter goodWord, w.before args s = true)
    (hgood : ∀ w ∈ Cond.classLink RX6 ik cls :: Cond.initialized cls :: vx_atS RX6 ic cls xN, vx_ot w = true) (hE : EV D z q A s s.heap) (hS : va_S A s.heap H []) (hH0 : H = s.heap) (hml : c.maxLocals = nL) (hsize : ls.size = nL)
    (d0 : decode cc pc = .ok (.new ik, 3)) (d3 : decode cc (pc + 3) = .ok (.dup, 1)) (d4 : decode cc (pc + 4) = .ok (.ldc is, 2)) (d6 : decode cc (pc + 6) = .ok (.invokespecial ic, 3)) (d9 : decode cc (pc + 9) = .ok (.athrow, 1))
    (hout : ∀ x ∈ c.exceptionTable.toList, False) (hlocks : meth.locks = false) (hRf : 5 < R.frames) (hRl : (rest.map fun v => v.category).sum + 82 ≤ R.locals) (hRc : cells + 1 ≤ R.cells ∧ slots + 6 ≤ R.slots) (hbad : bad cls) (hc : cells + 1 ≤ mc) (hs : slots + 6 ≤ ms) :
    W p l e R s m args below meth c H [] cells slots (vx_MQ below Qc (XK bad) args s mc ms free) (F0 m pc ls rest) := by
  subst hH0
  exact vx_throwS (own := RX6) (names := xN) (A := A) hx hb hl hown hcls fitN hk hini (hE.2.2.2.2.1 (is, text) htx) (hat_of hE hX hn hg) hgood hE.2.2.1.1 hE.2.2.1.2 hS (hsize.trans hml.symm) d0 d3 d4 d6 d9 (fun x hx => (hout x hx).elim) hRf hRl hRc.1 hRc.2 hlocks (fun t _ hz hk => ⟨hbad, hz, fun q h1 _ => hk q h1⟩) (fun _ h => nomatch h) hc hs
