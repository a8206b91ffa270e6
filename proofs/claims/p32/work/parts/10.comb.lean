/-! ===== the environment that no method changes; contracts that read, contracts that write; their calls ===== -/
abbrev TY (z : Nat → ClassId) : List (ClassId × FieldType) := [(z 0, .int), (z 1, .boolean)]
def fingT (j : Nat) : Int32 := ([0, 1, 2, 3, 3, 4, 4, 5, 6, 7] : List Int32).getD j 0
def nestF : List (Nat × String × String × String) := [(104, "TypingCoach$Lesson", "size", "I"), (124, "TypingCoach$Lesson", "position", "I"), (157, "TypingCoach$Lesson", "mendedStrokes", "I"), (172, "TypingCoach$Figures", "counts", "LTypingCoach$Cells;"), (178, "TypingCoach$Figures", "times", "LTypingCoach$Cells;"), (181, "TypingCoach$Figures", "shares", "LTypingCoach$Cells;"), (193, "TypingCoach$Figures", "wishedTime", "I"), (196, "TypingCoach$Figures", "wishedShare", "I"), (206, "TypingCoach$Speeds", "size", "I"), (209, "TypingCoach$Speeds", "kept", "LTypingCoach$Cells;")]
def nestM : List (Nat × MethodName) := [(18, yX2_init), (34, yX3_init), (41, yX5_init)]
def textL : List (Nat × String) := [(109, "length out of range"), (119, "no such position"), (130, "no wanted letter is at the position"), (149, "the position is 0"), (161, "100 lessons have ended"), (187, "no such kind"), (189, "finger out of range"), (191, "wish out of range"), (207, "no such lesson"), (221, "no such letter"), (223, "millis out of range"), (72, "no such place"), (98, "40 letters are wanted")]
def excL : List String := ["java/lang/IndexOutOfBoundsException", "java/lang/IllegalArgumentException", "java/lang/IllegalStateException"]
def supL : List String := ["java/lang/RuntimeException", "java/lang/Exception", Bundle.tN]
def ncL : List (String × String) := [("java/lang/IllegalArgumentException", "java/lang/IndexOutOfBoundsException"), ("java/lang/IllegalStateException", "java/lang/IndexOutOfBoundsException"), ("java/lang/IllegalStateException", "java/lang/IllegalArgumentException")]
/-- what the tables and the statics give, and nobody changes: z the array classes, q the static table and the texts -/
def EV (D : va_G) (z : Nat → ClassId) (q : Nat → Nat) (A : Nat → Prop) (U : State) (H : Heap) : Prop :=
  va_K D vwCl (TY z) U ∧ ((∀ w ∈ nestF, va_Nw (.fieldLinkNest RX6 w.1 w.2.1 w.2.2.1 w.2.2.2 RX6) U) ∧ (∀ w ∈ nestM, va_Nw (.methodLinkNest RX6 w.1 w.2 RX6) U) ∧ va_Nw (.fieldLinkNest RX0 33 RX6 "FINGER_OF_COLUMN" "[I" RX6) U) ∧
  (vx_Zq Bundle.tN "UNASSIGNED_STACK" Bundle.steD A U H ∧ vx_Zq Bundle.tN "SUPPRESSED_SENTINEL" Bundle.listD A U H) ∧
  (va_Z RX6 "FINGER_OF_COLUMN" "[I" (.ref (q 0)) A U H ∧ va_T .int (q 0) 10 (fun j => .int (fingT j)) A U H) ∧
  (∀ t ∈ textL, vk_R RX6 t.1 t.2 (q t.1) U) ∧ (∀ X ∈ excL, va_Nw (.castable X X) U) ∧ (∀ w ∈ ncL, va_Nc w.1 w.2 U) ∧ (∀ Y ∈ supL, va_Nw (.declares (Bundle.initS Y)) U)
theorem EV.go {D : va_G} {z : Nat → ClassId} {q : Nat → Nat} {A B : Nat → Prop} {s U : State} {H H1 : Heap} (h : EV D z q A s H) (hk : ∀ a : Nat, a < H.size → ¬ A a → H1[a]? = H[a]?) (hAB : ∀ x, B x → A x) (hW : s.WarmedH U.vm) : EV D z q B U H1 := by
  obtain ⟨h1, ⟨h2, h3, h4⟩, ⟨h5, h6⟩, ⟨h7, h8⟩, h9, h10, h11, h12⟩ := h
  exact ⟨va_K.moved hW.alike h1, ⟨fun w hw => va_Nw.warmF hW (h2 w hw), fun w hw => va_Nw.warmM hW (h3 w hw), va_Nw.warmF hW h4⟩,
    ⟨vx_Zq.moved hW.alike ((h5.kept hk).narrow hAB), vx_Zq.moved hW.alike ((h6.kept hk).narrow hAB)⟩, ⟨va_Z.moved hW.alike ((h7.kept hk).narrow hAB), va_T.moved hW.alike ((h8.kept hk).narrow hAB)⟩, fun t ht => vk_R.warm hW (h9 t ht), fun X hX => va_Nw.warmC hW (h10 X hX), fun w hw => va_Nc.moved hW.alike (h11 w hw), fun Y hY => va_tabs rfl (rfl : (s.setVm U.vm).vm = U.vm) (by rw [Cond.declares_setVm hW.alike]; exact h12 Y hY)⟩
/-- where a method that reads begins -/
def RP (D : va_G) (z : Nat → ClassId) (q : Nat → Nat) (w : va_W) : State → Prop := fun U => va_P D vwCl w U.heap ∧ EV D z q (fun x => U.heap.size ≤ x) U U.heap
/-- where a method that writes begins -/
def WP (D : va_G) (z : Nat → ClassId) (q : Nat → Nat) (w : va_W) (sz : Nat) : State → Prop := fun U => U.heap.size = sz ∧ va_P D vwCl w U.heap ∧ va_D (fun _ => True) w ∧ EV D z q (va_A w sz) U U.heap
/-- an answer, and the heap as it was -/
def QR (v : Option Value) : Array Value → State → Outcome → State → Prop := fun _ st o t => o = .returned v ∧ t.heap = st.heap
/-- an answer, and the world behind it -/
def QW (D : va_G) (w1 : va_W) (A : Nat → Prop) (v : Option Value) : Array Value → State → Outcome → State → Prop := fun _ st o t => (o = .returned v ∧ va_P D vwCl w1 t.heap ∧ va_D A w1) ∧ va_F A st t
/-- what has been thrown, and what was there stays -/
def XK (bad : String → Prop) : String → State → State → Prop := fun E st t => bad E ∧ va_F (fun _ => False) st t
abbrev RD (l : Launch) (y : MethodName) (ws : List Cond) (rm : Room) (D : va_G) (z : Nat → ClassId) (q : Nat → Nat) (As : List Value) (w : va_W) (v : Option Value) : Prop := Met l y ws rm (va_Pc As (RP D z q w)) (QR v) 0 0 (fun _ => False)
abbrev WR (l : Launch) (y : MethodName) (ws : List Cond) (rm : Room) (D : va_G) (z : Nat → ClassId) (q : Nat → Nat) (As : List Value) (w : va_W) (sz : Nat) (w1 : va_W) (v : Option Value) : Prop := Met l y ws rm (va_Pc As (WP D z q w sz)) (QW D w1 (va_A w sz) v) 0 0 (va_A w sz)
/-- any end: what it says is told by a relation of what the answer and the world behind it hold -/
def QT {S : Type} (D : va_G) (A : Nat → Prop) (val : S → Option Value) (post : S → Prop) (w1 : S → va_W) : Array Value → State → Outcome → State → Prop := fun _ st o t => (∃ u : S, o = .returned (val u) ∧ post u ∧ va_P D vwCl (w1 u) t.heap ∧ va_D A (w1 u)) ∧ va_F A st t
theorem RP_blind {D : va_G} {z : Nat → ClassId} {q : Nat → Nat} {w : va_W} {As : List Value} : FrameBlind (va_Pc As (RP D z q w)) :=
  fun a U g mk h => ⟨h.1, h.2.1, h.2.2.go (U := U.calling g mk a) (fun _ _ _ => rfl) (fun _ h => h) (State.WarmedH.refl U)⟩
theorem WP_blind {D : va_G} {z : Nat → ClassId} {q : Nat → Nat} {w : va_W} {sz : Nat} {As : List Value} : FrameBlind (va_Pc As (WP D z q w sz)) :=
  fun a U g mk h => ⟨h.1, h.2.1, h.2.2.1, h.2.2.2.1, h.2.2.2.2.go (U := U.calling g mk a) (fun _ _ _ => rfl) (fun _ h => h) (State.WarmedH.refl U)⟩
theorem RD_mk {l : Launch} {y : MethodName} {ws ws' : List Cond} {rm : Room} {cc : ByteArray} {maxL : Nat} {ret : Option FieldType} {D : va_G} {z : Nat → ClassId} {q : Nat → Nat} {As : List Value} {w : va_W} {v : Option Value} (hy : plainName y.cls = true) (hw : ws = Cond.code y cc maxL ret :: ws') (hn : (lg_sl As).length ≤ maxL)
    (body : ∀ (p : Program) (e : Env) (s : State) (m : MethodId) (below : List Frame) (meth : Method) (c : Code), p.tables.exec = Jvm.exec → c.code = cc → meth.sig.returnType = ret → c.maxLocals = maxL → (∀ w ∈ ws, w.before As.toArray s = true) → s.vm.findClass y.cls = some m.cls → meth.locks = false → va_P D vwCl w s.heap → EV D z q (fun x => s.heap.size ≤ x) s s.heap → va_S (fun x => s.heap.size ≤ x) s.heap s.heap [] → (∀ x : Nat, s.heap.size ≤ x → (fun x => s.heap.size ≤ x) x) →
      ∀ ls : Array Slot, lv_has ls maxL (lv_args 0 As) → W p l e rm s m As.toArray below meth c s.heap [] 0 0 (MQ below (QR v) As.toArray s 0 0 (fun _ => False)) (F0 m 0 ls [])) : RD l y ws rm D z q As w v := by
  refine Met.ofW (cc := cc) (maxL := maxL) (ret := ret) hy hw ?_
  intro p e s m args below meth c s₁ B hml hv
  obtain ⟨rfl, hP, hE⟩ := hv
  rw [lg_entry_eq]
  exact body p e s m below meth c B.exec B.bytes B.returns hml (atoms_spec (ws := ws) B.pre) (findClass_of_methodNamed B.named) B.notSynchronized hP hE va_S.rf (fun _ h => h) _ (lv_entry As hn)
theorem WR_mk {l : Launch} {y : MethodName} {ws ws' : List Cond} {rm : Room} {cc : ByteArray} {maxL mc ms : Nat} {ret : Option FieldType} {D : va_G} {z : Nat → ClassId} {q : Nat → Nat} {As : List Value} {w : va_W} {sz : Nat} {Qc : (Nat → Prop) → Array Value → State → Outcome → State → Prop} (hy : plainName y.cls = true) (hw : ws = Cond.code y cc maxL ret :: ws') (hn : (lg_sl As).length ≤ maxL)
    (body : ∀ (p : Program) (e : Env) (s : State) (m : MethodId) (below : List Frame) (meth : Method) (c : Code) (A : Nat → Prop), p.tables.exec = Jvm.exec → c.code = cc → meth.sig.returnType = ret → c.maxLocals = maxL → (∀ w ∈ ws, w.before As.toArray s = true) → s.vm.findClass y.cls = some m.cls → meth.locks = false → (y.name = "<init>" → meth.name = "<init>") → ∀ H : Heap, va_P D vwCl w H → va_D A w → EV D z q A s s.heap → va_S A s.heap H [] → (∀ x : Nat, s.heap.size ≤ x → A x) →
      ∀ ls : Array Slot, lv_has ls maxL (lv_args 0 As) → W p l e rm s m As.toArray below meth c H [] 0 0 (MQ below (Qc A) As.toArray s mc ms A) (F0 m 0 ls [])) : Met l y ws rm (va_Pc As (WP D z q w sz)) (Qc (va_A w sz)) mc ms (va_A w sz) := by
  refine Met.ofW (cc := cc) (maxL := maxL) (ret := ret) hy hw ?_
  intro p e s m args below meth c s₁ B hml hv
  obtain ⟨rfl, rfl, hP, hD, hE⟩ := hv
  rw [lg_entry_eq]
  exact body p e s m below meth c (va_A w s.heap.size) B.exec B.bytes B.returns hml (atoms_spec (ws := ws) B.pre) (findClass_of_methodNamed B.named) B.notSynchronized (fun h => by rw [(name_of_methodNamed B.named B.method).1]; exact h) s.heap hP hD.self hE va_S.rf (fun _ h => Or.inr h) _ (lv_entry As hn)
section COMB
variable {p : Program} {l : Launch} {e : Env} {R : Room} {s : State} {m : MethodId} {args : Array Value} {below : List Frame} {meth : Method} {c : Code} {H : Heap} {locs : List Loc} {cells slots : Nat} {Q : State → Prop}
variable {D : va_G} {z : Nat → ClassId} {q : Nat → Nat} {A : Nat → Prop} {cc bytes : ByteArray} {pc nL maxL index n : Nat} {ls : Array Slot} {Ts ws ws' : List Cond} {own C : String} {y : MethodName} {ret : Option FieldType} {rm : Room} {b : Nat} {As rest st : List Value}
theorem rd_i {v x : Int32} (hx : p.tables.exec = Jvm.exec) (hb : c.code = cc) (hr : meth.sig.returnType = some .int) (hlocks : meth.locks = false) (hd : decode cc pc = .ok (.ireturn, 1)) (hv : x = v) :
    W p l e R s m args below meth c s.heap [] 0 0 (MQ below (QR (some (.int v))) args s 0 0 (fun _ => False)) (F0 m pc ls [.int x]) := by
  subst hv
  exact W.iret hx hb hr (fun t ht _ => ⟨rfl, ht⟩) (fun _ h => nomatch h) hd hlocks
theorem rd_z {v x : Int32} (hx : p.tables.exec = Jvm.exec) (hb : c.code = cc) (hr : meth.sig.returnType = some .boolean) (hlocks : meth.locks = false) (hd : decode cc pc = .ok (.ireturn, 1)) (hn : narrow .boolean (.int x) = .int x) (hv : x = v) :
    W p l e R s m args below meth c s.heap [] 0 0 (MQ below (QR (some (.int v))) args s 0 0 (fun _ => False)) (F0 m pc ls [.int x]) := by
  subst hv
  exact W.zret hx hb hr hn (fun t ht _ => ⟨rfl, ht⟩) (fun _ h => nomatch h) hd hlocks
theorem wr_v {w1 w2 : va_W} {mc ms : Nat} (hx : p.tables.exec = Jvm.exec) (hb : c.code = cc) (hr : meth.sig.returnType = none) (hlocks : meth.locks = false) (hP : va_P D vwCl w2 H) (hD : va_D A w2) (hS : va_S A s.heap H locs) (hd : decode cc pc = .ok (.return_, 1)) (hw : w2 = w1) (hc : cells ≤ mc) (hs : slots ≤ ms) :
    W p l e R s m args below meth c H locs cells slots (MQ below (QW D w1 A none) args s mc ms A) (F0 m pc ls []) := by
  subst hw
  exact W.widen hc hs (W.vret hx hb hr (fun t ht _ => ⟨⟨rfl, by rw [ht]; exact hP, hD⟩, hS.F ht⟩) hS.2.2 hd hlocks)
theorem wr_i {w1 w2 : va_W} {mc ms : Nat} {v x : Int32} (hx : p.tables.exec = Jvm.exec) (hb : c.code = cc) (hr : meth.sig.returnType = some .int) (hlocks : meth.locks = false) (hP : va_P D vwCl w2 H) (hD : va_D A w2) (hS : va_S A s.heap H locs) (hd : decode cc pc = .ok (.ireturn, 1)) (hw : w2 = w1) (hv : x = v) (hc : cells ≤ mc) (hs : slots ≤ ms) :
    W p l e R s m args below meth c H locs cells slots (MQ below (QW D w1 A (some (.int v))) args s mc ms A) (F0 m pc ls [.int x]) := by
  subst hw; subst hv
  exact W.widen hc hs (W.iret hx hb hr (fun t ht _ => ⟨⟨rfl, by rw [ht]; exact hP, hD⟩, hS.F ht⟩) hS.2.2 hd hlocks)
theorem wr_z {w1 w2 : va_W} {mc ms : Nat} {v x : Int32} (hx : p.tables.exec = Jvm.exec) (hb : c.code = cc) (hr : meth.sig.returnType = some .boolean) (hlocks : meth.locks = false) (hn : narrow .boolean (.int x) = .int x) (hP : va_P D vwCl w2 H) (hD : va_D A w2) (hS : va_S A s.heap H locs) (hd : decode cc pc = .ok (.ireturn, 1)) (hw : w2 = w1) (hv : x = v) (hc : cells ≤ mc) (hs : slots ≤ ms) :
    W p l e R s m args below meth c H locs cells slots (MQ below (QW D w1 A (some (.int v))) args s mc ms A) (F0 m pc ls [.int x]) := by
  subst hw; subst hv
  exact W.widen hc hs (W.zret hx hb hr hn (fun t ht _ => ⟨⟨rfl, by rw [ht]; exact hP, hD⟩, hS.F ht⟩) hS.2.2 hd hlocks)
theorem qt_v {S : Type} {val : S → Option Value} {post : S → Prop} {w1 : S → va_W} {w2 : va_W} {mc ms : Nat} (u : S) (hx : p.tables.exec = Jvm.exec) (hb : c.code = cc) (hr : meth.sig.returnType = none) (hlocks : meth.locks = false) (hP : va_P D vwCl w2 H) (hD : va_D A w2) (hS : va_S A s.heap H locs) (hd : decode cc pc = .ok (.return_, 1)) (hv : val u = none) (hw : w2 = w1 u) (hp : post u) (hc : cells ≤ mc) (hs : slots ≤ ms) :
    W p l e R s m args below meth c H locs cells slots (MQ below (QT D A val post w1) args s mc ms A) (F0 m pc ls []) := by
  subst hw
  exact W.widen hc hs (W.vret hx hb hr (fun t ht _ => ⟨⟨u, by rw [hv], hp, by rw [ht]; exact hP, hD⟩, hS.F ht⟩) hS.2.2 hd hlocks)
theorem qt_i {S : Type} {val : S → Option Value} {post : S → Prop} {w1 : S → va_W} {w2 : va_W} {mc ms : Nat} {x : Int32} (u : S) (hx : p.tables.exec = Jvm.exec) (hb : c.code = cc) (hr : meth.sig.returnType = some .int) (hlocks : meth.locks = false) (hP : va_P D vwCl w2 H) (hD : va_D A w2) (hS : va_S A s.heap H locs) (hd : decode cc pc = .ok (.ireturn, 1)) (hv : val u = some (.int x)) (hw : w2 = w1 u) (hp : post u) (hc : cells ≤ mc) (hs : slots ≤ ms) :
    W p l e R s m args below meth c H locs cells slots (MQ below (QT D A val post w1) args s mc ms A) (F0 m pc ls [.int x]) := by
  subst hw
  exact W.widen hc hs (W.iret hx hb hr (fun t ht _ => ⟨⟨u, by rw [hv], hp, by rw [ht]; exact hP, hD⟩, hS.F ht⟩) hS.2.2 hd hlocks)
theorem qt_z {S : Type} {val : S → Option Value} {post : S → Prop} {w1 : S → va_W} {w2 : va_W} {mc ms : Nat} {x : Int32} (u : S) (hx : p.tables.exec = Jvm.exec) (hb : c.code = cc) (hr : meth.sig.returnType = some .boolean) (hlocks : meth.locks = false) (hn : narrow .boolean (.int x) = .int x) (hP : va_P D vwCl w2 H) (hD : va_D A w2) (hS : va_S A s.heap H locs) (hd : decode cc pc = .ok (.ireturn, 1)) (hv : val u = some (.int x)) (hw : w2 = w1 u) (hp : post u) (hc : cells ≤ mc) (hs : slots ≤ ms) :
    W p l e R s m args below meth c H locs cells slots (MQ below (QT D A val post w1) args s mc ms A) (F0 m pc ls [.int x]) := by
  subst hw
  exact W.widen hc hs (W.zret hx hb hr hn (fun t ht _ => ⟨⟨u, by rw [hv], hp, by rw [ht]; exact hP, hD⟩, hS.F ht⟩) hS.2.2 hd hlocks)
theorem rd_call {a : Array Value} {v : Option Value} (hr : CallRun p l e R s m args below meth c H locs cells slots 0 0 (F0 m pc ls st) rest (QR v a) (fun _ => False))
    (kk : W p l e R s m args below meth c H locs cells slots Q (F0 m (pc + 3) ls (v.toList ++ rest))) : W p l e R s m args below meth c H locs cells slots Q (F0 m pc ls st) := by
  intro T hT X
  obtain ⟨v, st₀, t, T', L, h0, X', hL, e1, ⟨hv, hh⟩, st⟩ := hr T hT X
  cases hv
  obtain ⟨t2, a1, b1⟩ := kk T' (by rw [e1, hh, h0]) (Stand.forget X' (fun q h => (hL q h).elim))
  exact ⟨t2, st t2 a1, b1⟩
/-- what a callee that reads asks, out of the caller's world -/
theorem RP_of {wc wx : va_W} {U : State} (hE : EV D z q A s s.heap) (hS : va_S A s.heap H locs) (hA : ∀ x : Nat, s.heap.size ≤ x → A x) (hPc : va_P D vwCl wc H) (hU : U.heap = H) (hW : s.WarmedH U.vm) : RP D z q wc U := by
  subst hU
  exact ⟨hPc, hE.go hS.2.1 (fun x hx => hA x (Nat.le_trans hS.1 hx)) hW⟩
theorem WP_of {wc wx : va_W} {U : State} (hE : EV D z q A s s.heap) (hS : va_S A s.heap H locs) (hPc : va_P D vwCl wc H) (hDc : va_D A wc) (hF : ∀ x : Nat, va_A wc H.size x → A x) (hU : U.heap = H) (hW : s.WarmedH U.vm) : WP D z q wc H.size U := by
  subst hU
  exact ⟨rfl, hPc, hDc.weaken (fun _ _ _ _ => trivial), hE.go hS.2.1 hF hW⟩
theorem rdV {wc wx : va_W} {x : Int32} {ci : Nat} {fs : List Value} {kq : vw_C} (S : CallFix p m c cc nL s args Ts own) (hM : RD l y ws rm D z q (.ref b :: As) wc (some (.int x))) (cw : CallW R s args own C index y bytes maxL ret ws rm 0 0 n)
    (hE : EV D z q A s s.heap) (hS : va_S A s.heap H locs) (hA : ∀ x : Nat, s.heap.size ≤ x → A x) (hP : va_P D vwCl wx H) (is : List Nat) (hs : is.filterMap (fun i => wx[i]?) = wc) (he : wc[0]? = some (b, .inr (ci, fs))) (hc : vwCl[ci]? = some kq) (hC : kq.1 = C)
    (hn : As.length = n) (hsz : ls.size = nL) (hst : st = As.reverse ++ .ref b :: rest) (hW : (rest.map fun v => v.category).sum ≤ 8) (hdg : decode cc pc = .ok (.invokevirtual index, 3)) (hf : cells + 0 ≤ R.cells ∧ slots + 0 ≤ R.slots)
    (kk : W p l e R s m args below meth c H locs cells slots Q (F0 m (pc + 3) ls (.int x :: rest))) : W p l e R s m args below meth c H locs cells slots Q (F0 m pc ls st) := by
  have hPc := hP.sub is hs
  refine rd_call (W.runV S hM cw ⟨RP_blind, by subst hC; exact va_recv hE.1 hPc hc he, fun U hU hW => ⟨rfl, RP_of (wx := wx) hE hS hA hPc hU hW⟩⟩ rfl hn hsz hst (lv_room hW) hdg hf) kk
theorem rdS {wc wx : va_W} {x : Int32} (S : CallFix p m c cc nL s args Ts own) (hM : RD l y ws rm D z q As wc (some (.int x))) (cw : CallB R s args own index y bytes maxL ret ws rm 0 0 n ∧ (Cond.static y).before args s = true)
    (hE : EV D z q A s s.heap) (hS : va_S A s.heap H locs) (hA : ∀ x : Nat, s.heap.size ≤ x → A x) (hP : va_P D vwCl wx H) (is : List Nat) (hs : is.filterMap (fun i => wx[i]?) = wc)
    (hn : As.length = n) (hsz : ls.size = nL) (hst : st = As.reverse ++ rest) (hW : (rest.map fun v => v.category).sum ≤ 8) (hdg : decode cc pc = .ok (.invokestatic index, 3)) (hf : cells + 0 ≤ R.cells ∧ slots + 0 ≤ R.slots)
    (kk : W p l e R s m args below meth c H locs cells slots Q (F0 m (pc + 3) ls (.int x :: rest))) : W p l e R s m args below meth c H locs cells slots Q (F0 m pc ls st) := by
  have hPc := hP.sub is hs
  refine rd_call (W.runS S hM cw ⟨RP_blind, fun U hU hW => ⟨rfl, RP_of (wx := wx) hE hS hA hPc hU hW⟩⟩ rfl hn hsz hst (lv_room hW) hdg hf) kk
/-- the caller's world with the callee's cells put back at their places -/
def mxA (w1 : va_W) (isC : List Nat) : Nat → va_W → va_W
  | _, [] => []
  | k, x :: r => (match isC.idxOf? k with | some j => (w1[j]?).getD x | none => x) :: mxA w1 isC (k + 1) r
theorem mxA_spec {w1 : va_W} {isC : List Nat} (hlen : w1.length = isC.length) : ∀ (wx : va_W) (o k : Nat) (x : Nat × va_E), (mxA w1 isC o wx)[k]? = some x → (∃ j : Nat, isC[j]? = some (o + k) ∧ w1[j]? = some x) ∨ (o + k ∉ isC ∧ wx[k]? = some x) := by
  intro wx
  induction wx with
  | nil => intro o k x h; simp [mxA] at h
  | cons y r ih =>
    intro o k x h
    cases k with
    | zero =>
      rw [mxA, List.getElem?_cons_zero] at h
      cases hj : isC.idxOf? o with
      | none =>
        rw [hj] at h
        exact Or.inr ⟨by simpa using List.idxOf?_eq_none_iff.mp hj, by simpa using h⟩
      | some j =>
        rw [hj] at h
        have h1 : isC[j]? = some o := by
          have h2 := List.idxOf?_eq_some_iff.mp hj
          obtain ⟨h3, h4, -⟩ := h2
          rw [List.getElem?_eq_getElem h3]
          simpa using h4
        have hl : j < w1.length := by rw [hlen]; exact (List.getElem?_eq_some_iff.mp h1).1
        refine Or.inl ⟨j, h1, ?_⟩
        dsimp only at h
        rw [List.getElem?_eq_getElem hl] at h ⊢
        simpa using h
    | succ k =>
      rw [mxA, List.getElem?_cons_succ] at h
      have h1 := ih (o + 1) k x h
      rw [show o + 1 + k = o + (k + 1) by omega] at h1
      simpa using h1
theorem mx_join {A0 : Nat → Prop} {wx wc w1 : va_W} {H H1 : Heap} (hP : va_P D vwCl wx H) (hD : va_D A0 wx) (isC : List Nat) (hC : isC.map (fun i => wx[i]?) = wc.map some) (hlen : w1.length = isC.length)
    (hk : ∀ q : Nat, q < H.size → ¬ va_A wc H.size q → H1[q]? = H[q]?) (hF : ∀ q, va_A wc H.size q → A0 q) (hP1 : va_P D vwCl w1 H1) (hD1 : va_D (va_A wc H.size) w1) : va_P D vwCl (mxA w1 isC 0 wx) H1 ∧ va_D A0 (mxA w1 isC 0 wx) := by
  have apart : ∀ (k : Nat) (q : Nat × va_E), k ∉ isC → wx[k]? = some q → q.1 < H.size ∧ ¬ va_A wc H.size q.1 := by
    intro k q hn hq
    have hl := (hP k q hq).lt
    refine ⟨hl, fun h => ?_⟩
    rcases h with ⟨k2, e, h⟩ | h
    · have h1 : (isC.map (fun i => wx[i]?))[k2]? = some (some (q.1, e)) := by rw [hC, List.getElem?_map, h]; rfl
      rw [List.getElem?_map] at h1
      cases hi : isC[k2]? with
      | none => rw [hi] at h1; cases h1
      | some i =>
        rw [hi] at h1
        have h2 : wx[i]? = some (q.1, e) := Option.some.inj h1
        have h3 := hD.1 k i q (q.1, e) hq h2 rfl
        subst h3
        exact hn (List.mem_of_getElem? hi)
    · omega
  refine ⟨fun k x hx => ?_, fun i j x y hx hy hxy => ?_, fun k x hx => ?_⟩
  · rcases mxA_spec hlen wx 0 k x hx with ⟨j, -, h2⟩ | ⟨h1, h2⟩
    · exact hP1 j x h2
    · obtain ⟨g1, g2⟩ := apart k x (by simpa using h1) h2
      exact (hP k x h2).kept (hk x.1 g1 g2)
  · rcases mxA_spec hlen wx 0 i x hx with ⟨i1, h1, h2⟩ | ⟨h1, h2⟩ <;> rcases mxA_spec hlen wx 0 j y hy with ⟨j1, h3, h4⟩ | ⟨h3, h4⟩
    · have h5 := hD1.1 i1 j1 x y h2 h4 hxy
      subst h5
      have h6 := h1.symm.trans h3
      simpa using h6
    · exact absurd (by rw [← hxy]; exact hD1.2 i1 x h2) (apart j y (by simpa using h3) h4).2
    · exact absurd (by rw [hxy]; exact hD1.2 j1 y h4) (apart i x (by simpa using h1) h2).2
    · exact hD.1 i j x y h2 h4 hxy
  · rcases mxA_spec hlen wx 0 k x hx with ⟨j, -, h2⟩ | ⟨h1, h2⟩
    · exact hF _ (hD1.2 j x h2)
    · exact hD.2 k x h2
theorem sub_map {ws ws' : va_W} {H : Heap} (h : va_P D vwCl ws H) (is : List Nat) (hs : is.map (fun i => ws[i]?) = ws'.map some) : va_P D vwCl ws' H := by
  intro k x hk
  have h1 : (is.map (fun i => ws[i]?))[k]? = some (some x) := by rw [hs, List.getElem?_map, hk]; rfl
  rw [List.getElem?_map] at h1
  cases hi : is[k]? with
  | none => rw [hi] at h1; cases h1
  | some i => rw [hi] at h1; exact h i x (Option.some.inj h1)
theorem QW_run {a : Array Value} {v : Option Value} {wx wc w1 : va_W} (hr : va_Run p l e R s m args below meth c H locs cells slots 0 0 (F0 m pc ls st) rest (QW D w1 (va_A wc H.size) v a) (va_A wc H.size)) (hS : va_S A s.heap H locs) (hP : va_P D vwCl wx H) (hD : va_D A wx) (isC : List Nat) (hC : isC.map (fun i => wx[i]?) = wc.map some) (hlen : w1.length = isC.length) (hF : ∀ q, va_A wc H.size q → A q)
    (kk : ∀ (H1 : Heap) (locs1 : List Loc), va_P D vwCl (mxA w1 isC 0 wx) H1 → va_D A (mxA w1 isC 0 wx) → va_S A s.heap H1 locs1 → W p l e R s m args below meth c H1 locs1 cells slots Q (F0 m (pc + 3) ls (v.toList ++ rest))) : W p l e R s m args below meth c H locs cells slots Q (F0 m pc ls st) := by
  intro T hT X
  obtain ⟨v, st₀, t, T', L, h0, X', hL, e1, e2, ⟨⟨hv, hP1, hD1⟩, hz, hk⟩, st⟩ := hr T hT X
  cases hv
  rw [h0] at hz hk
  obtain ⟨g1, g2⟩ := mx_join (H1 := T'.heap) hP hD isC hC hlen (fun q h1 h2 => by rw [e1]; exact hk q h1 h2) hF (by rw [e1]; exact hP1) hD1
  obtain ⟨t2, a1, b1⟩ := kk T'.heap (locs ++ L) g1 g2
    ⟨Nat.le_trans hS.1 (by rw [e1]; exact hz), fun q h1 h2 => by rw [e1, hk q (Nat.lt_of_lt_of_le h1 hS.1) (fun z => h2 (hF q z))]; exact hS.2.1 q h1 h2, fun q hq => by
      rcases List.mem_append.mp hq with h | h
      · exact hS.2.2 q h
      · exact hF _ (hL q h)⟩ T' rfl X'
  exact ⟨t2, st t2 a1, b1⟩
theorem rd_v (hx : p.tables.exec = Jvm.exec) (hb : c.code = cc) (hr : meth.sig.returnType = none) (hlocks : meth.locks = false) (hd : decode cc pc = .ok (.return_, 1)) :
    W p l e R s m args below meth c s.heap [] 0 0 (MQ below (QR none) args s 0 0 (fun _ => False)) (F0 m pc ls []) :=
  W.vret hx hb hr (fun t ht _ => ⟨rfl, ht⟩) (fun _ h => nomatch h) hd hlocks
theorem wrSv {wc wx w1 : va_W} (S : CallFix p m c cc nL s args Ts own) (hM : WR l y ws rm D z q As wc H.size w1 none) (cw : CallB R s args own index y bytes maxL ret ws rm 0 0 n ∧ (Cond.static y).before args s = true)
    (hE : EV D z q A s s.heap) (hS : va_S A s.heap H locs) (hA : ∀ x : Nat, s.heap.size ≤ x → A x) (hP : va_P D vwCl wx H) (hD : va_D A wx) (is : List Nat) (hs : is.map (fun i => wx[i]?) = wc.map some) (hnd : va_nd is = true) (hlen : w1.length = is.length)
    (hn : As.length = n) (hsz : ls.size = nL) (hst : st = As.reverse ++ rest) (hW : (rest.map fun v => v.category).sum ≤ 8) (hdg : decode cc pc = .ok (.invokestatic index, 3)) (hf : cells + 0 ≤ R.cells ∧ slots + 0 ≤ R.slots)
    (kk : ∀ (H1 : Heap) (locs1 : List Loc), va_P D vwCl (mxA w1 is 0 wx) H1 → va_D A (mxA w1 is 0 wx) → va_S A s.heap H1 locs1 → W p l e R s m args below meth c H1 locs1 cells slots Q (F0 m (pc + 3) ls rest)) : W p l e R s m args below meth c H locs cells slots Q (F0 m pc ls st) := by
  have hPc := sub_map hP is hs
  have hDc := hD.sub is hnd hs
  have hFc := va_free hD hS hA is hs
  refine QW_run (va_runS S hM cw ⟨WP_blind, fun U hU hW => ⟨rfl, WP_of (wx := wx) hE hS hPc hDc hFc hU hW⟩⟩ rfl hn hsz hst (lv_room hW) hdg hf) hS hP hD is hs hlen hFc kk
/-- a call with any end, the callee's cells put back at their places -/
theorem QT_runM {S : Type} {val : S → Option Value} {post : S → Prop} {w1 : S → va_W} {a : Array Value} {wx wc : va_W} {mc ms : Nat} (hr : va_Run p l e R s m args below meth c H locs cells slots mc ms (F0 m pc ls st) rest (QT D (va_A wc H.size) val post w1 a) (va_A wc H.size)) (hS : va_S A s.heap H locs) (hP : va_P D vwCl wx H) (hD : va_D A wx) (isC : List Nat) (hC : isC.map (fun i => wx[i]?) = wc.map some) (hlen : ∀ u, (w1 u).length = isC.length) (hF : ∀ q, va_A wc H.size q → A q)
    (kk : ∀ (u : S) (H1 : Heap) (locs1 : List Loc), post u → va_P D vwCl (mxA (w1 u) isC 0 wx) H1 → va_D A (mxA (w1 u) isC 0 wx) → va_S A s.heap H1 locs1 → W p l e R s m args below meth c H1 locs1 (cells + mc) (slots + ms) Q (F0 m (pc + 3) ls ((val u).toList ++ rest))) : W p l e R s m args below meth c H locs cells slots Q (F0 m pc ls st) := by
  intro T hT X
  obtain ⟨v, st₀, t, T', L, h0, X', hL, e1, e2, ⟨⟨u, hv, hpo, hP1, hD1⟩, hz, hk⟩, st⟩ := hr T hT X
  cases hv
  rw [h0] at hz hk
  obtain ⟨g1, g2⟩ := mx_join (H1 := T'.heap) hP hD isC hC (hlen u) (fun q h1 h2 => by rw [e1]; exact hk q h1 h2) hF (by rw [e1]; exact hP1) hD1
  obtain ⟨t2, a1, b1⟩ := kk u T'.heap (locs ++ L) hpo g1 g2
    ⟨Nat.le_trans hS.1 (by rw [e1]; exact hz), fun q h1 h2 => by rw [e1, hk q (Nat.lt_of_lt_of_le h1 hS.1) (fun z => h2 (hF q z))]; exact hS.2.1 q h1 h2, fun q hq => by
      rcases List.mem_append.mp hq with h | h
      · exact hS.2.2 q h
      · exact hF _ (hL q h)⟩ T' rfl X'
  exact ⟨t2, st t2 a1, b1⟩
/-- a call with any end that makes cells: the caller's other cells, then the callee's -/
theorem QT_runJ {S : Type} {val : S → Option Value} {post : S → Prop} {w1 : S → va_W} {a : Array Value} {wx wc wr : va_W} {mc ms : Nat} (hr : va_Run p l e R s m args below meth c H locs cells slots mc ms (F0 m pc ls st) rest (QT D (va_A wc H.size) val post w1 a) (va_A wc H.size)) (hS : va_S A s.heap H locs) (hP : va_P D vwCl wx H) (hD : va_D A wx) (isC isR : List Nat) (hC : isC.map (fun i => wx[i]?) = wc.map some) (hR : isR.map (fun i => wx[i]?) = wr.map some) (hn : va_nd isR = true) (hdis : ∀ i ∈ isR, i ∉ isC) (hF : ∀ q, va_A wc H.size q → A q)
    (kk : ∀ (u : S) (H1 : Heap) (locs1 : List Loc), post u → va_P D vwCl (wr ++ w1 u) H1 → va_D A (wr ++ w1 u) → va_S A s.heap H1 locs1 → W p l e R s m args below meth c H1 locs1 (cells + mc) (slots + ms) Q (F0 m (pc + 3) ls ((val u).toList ++ rest))) : W p l e R s m args below meth c H locs cells slots Q (F0 m pc ls st) := by
  intro T hT X
  obtain ⟨v, st₀, t, T', L, h0, X', hL, e1, e2, ⟨⟨u, hv, hpo, hP1, hD1⟩, hz, hk⟩, st⟩ := hr T hT X
  cases hv
  rw [h0] at hz hk
  obtain ⟨g1, g2⟩ := va_join (H1 := T'.heap) hP hD isC isR hC hR hn hdis (fun q h1 h2 => by rw [e1]; exact hk q h1 h2) hF (by rw [e1]; exact hP1) hD1
  obtain ⟨t2, a1, b1⟩ := kk u T'.heap (locs ++ L) hpo g1 g2
    ⟨Nat.le_trans hS.1 (by rw [e1]; exact hz), fun q h1 h2 => by rw [e1, hk q (Nat.lt_of_lt_of_le h1 hS.1) (fun z => h2 (hF q z))]; exact hS.2.1 q h1 h2, fun q hq => by
      rcases List.mem_append.mp hq with h | h
      · exact hS.2.2 q h
      · exact hF _ (hL q h)⟩ T' rfl X'
  exact ⟨t2, st t2 a1, b1⟩
/-- a constructor's call -/
theorem qtI {S : Type} {post : S → Prop} {w1 : S → va_W} {wx wc wr : va_W} {mc ms : Nat} (S0 : CallFix p m c cc nL s args Ts own) (hM : Met l y ws rm (va_Pc (.ref b :: As) (WP D z q wc H.size)) (QT D (va_A wc H.size) (fun _ => none) post w1) mc ms (va_A wc H.size)) (cw : CallB R s args own index y bytes maxL none ws rm mc ms n ∧ y.name = "<init>" ∧ (Cond.instanceMethod y).before args s = true)
    (hE : EV D z q A s s.heap) (hS : va_S A s.heap H locs) (hA : ∀ x : Nat, s.heap.size ≤ x → A x) (hP : va_P D vwCl wx H) (hD : va_D A wx) (is isR : List Nat) (hs : is.map (fun i => wx[i]?) = wc.map some) (hnd : va_nd is = true) (hR : isR.map (fun i => wx[i]?) = wr.map some) (hnr : va_nd isR = true) (hdis : ∀ i ∈ isR, i ∉ is)
    (hn : As.length = n) (hsz : ls.size = nL) (hst : st = As.reverse ++ .ref b :: rest) (hW : (rest.map fun v => v.category).sum ≤ 8) (hdg : decode cc pc = .ok (.invokespecial index, 3)) (hf : cells + mc ≤ R.cells ∧ slots + ms ≤ R.slots)
    (kk : ∀ (u : S) (H1 : Heap) (locs1 : List Loc), post u → va_P D vwCl (wr ++ w1 u) H1 → va_D A (wr ++ w1 u) → va_S A s.heap H1 locs1 → W p l e R s m args below meth c H1 locs1 (cells + mc) (slots + ms) Q (F0 m (pc + 3) ls rest)) : W p l e R s m args below meth c H locs cells slots Q (F0 m pc ls st) := by
  have hPc := sub_map hP is hs
  have hDc := hD.sub is hnd hs
  have hFc := va_free hD hS hA is hs
  refine QT_runJ (va_runI S0 hM cw ⟨WP_blind, fun U hU hW => ⟨rfl, WP_of (wx := wx) hE hS hPc hDc hFc hU hW⟩⟩ rfl hn hsz hst (lv_room hW) hdg hf) hS hP hD is isR hs hR hnr hdis hFc kk
/-- a private constructor of a nest mate -/
theorem qtIN {S : Type} {host : String} {post : S → Prop} {w1 : S → va_W} {wx wc wr : va_W} {mc ms : Nat} (S0 : CallFix p m c cc nL s args Ts own) (hM : Met l y ws rm (va_Pc (.ref b :: As) (WP D z q wc H.size)) (QT D (va_A wc H.size) (fun _ => none) post w1) mc ms (va_A wc H.size)) (cw : va_CN R s args own index y host bytes maxL none ws rm mc ms n ∧ y.name = "<init>" ∧ (Cond.instanceMethod y).before args s = true)
    (hE : EV D z q A s s.heap) (hS : va_S A s.heap H locs) (hA : ∀ x : Nat, s.heap.size ≤ x → A x) (hP : va_P D vwCl wx H) (hD : va_D A wx) (is isR : List Nat) (hs : is.map (fun i => wx[i]?) = wc.map some) (hnd : va_nd is = true) (hR : isR.map (fun i => wx[i]?) = wr.map some) (hnr : va_nd isR = true) (hdis : ∀ i ∈ isR, i ∉ is)
    (hn : As.length = n) (hsz : ls.size = nL) (hst : st = As.reverse ++ .ref b :: rest) (hW : (rest.map fun v => v.category).sum ≤ 8) (hdg : decode cc pc = .ok (.invokespecial index, 3)) (hf : cells + mc ≤ R.cells ∧ slots + ms ≤ R.slots)
    (kk : ∀ (u : S) (H1 : Heap) (locs1 : List Loc), post u → va_P D vwCl (wr ++ w1 u) H1 → va_D A (wr ++ w1 u) → va_S A s.heap H1 locs1 → W p l e R s m args below meth c H1 locs1 (cells + mc) (slots + ms) Q (F0 m (pc + 3) ls rest)) : W p l e R s m args below meth c H locs cells slots Q (F0 m pc ls st) := by
  have hPc := sub_map hP is hs
  have hDc := hD.sub is hnd hs
  have hFc := va_free hD hS hA is hs
  refine QT_runJ (va_runIN S0 hM cw ⟨WP_blind, fun U hU hW => ⟨rfl, WP_of (wx := wx) hE hS hPc hDc hFc hU hW⟩⟩ rfl hn hsz hst (lv_room hW) hdg hf) hS hP hD is isR hs hR hnr hdis hFc kk
theorem ty_same {s : State} {z : Nat → ClassId} {cA : ClassId} {ty : FieldType} {k : Nat} (hK : va_K D vwCl (TY z ++ [(cA, ty)]) s) (hk : (TY z)[k]? = some (z k, ty)) (ho : ∀ C : String, ty ≠ .object C) : cA = z k := by
  have h1 : (TY z ++ [(cA, ty)])[k]? = some (z k, ty) := by
    rw [List.getElem?_append_left (List.getElem?_eq_some_iff.mp hk).1]; exact hk
  have h2 := (hK.2 k _ h1).2
  have h3 := (hK.2 2 (cA, ty) rfl).2
  cases ty <;> first | exact absurd rfl (ho _) | exact (Option.some.inj (h3.symm.trans h2))
/-- a new array of ints, of booleans -/
theorem newI {H0 : Heap} {ws : va_W} (hx : p.tables.exec = Jvm.exec) (hb : c.code = cc) (harr : (Cond.arrayClass .int).before args s = true) (hE : va_K D vwCl (TY z) s) (hP : va_P D vwCl ws H) (hD : va_D A ws) (hS : va_S A H0 H locs) (hA : ∀ q, H0.size ≤ q → A q)
    {n : Int32} {N' : Nat} (hn : ¬ n < 0) (hN : n.toNatClampNeg = N') (hbytes : N' * 4 ≤ 536870912) (hcells : cells + 1 ≤ R.cells) (hslots : slots + N' ≤ R.slots) (hdg : decode cc pc = .ok (.newarray .int, 2))
    (kk : ∀ (a : Nat) (H1 : Heap), va_P D vwCl (ws ++ [(a, .inl (z 0, N', .inl (fun _ => 0)))]) H1 → va_D A (ws ++ [(a, .inl (z 0, N', .inl (fun _ => 0)))]) → va_S A H0 H1 locs → W p l e R s m args below meth c H1 locs (cells + 1) (slots + N') Q (F0 m (pc + 2) ls (.ref a :: rest))) : W p l e R s m args below meth c H locs cells slots Q (F0 m pc ls (.int n :: rest)) := by
  refine va_newa (atype := .int) (ty := .int) (a0 := (N', .inl (fun _ => 0))) hx hb harr rfl hE hP hD hS hA (fun _ => rfl) hn hN hbytes hcells hslots hdg (fun a cA H1 hK1 hP1 hD1 hS1 => ?_)
  obtain rfl : cA = z 0 := ty_same (k := 0) hK1 rfl (fun _ h => by cases h)
  exact kk a H1 hP1 hD1 hS1
theorem newZ {H0 : Heap} {ws : va_W} (hx : p.tables.exec = Jvm.exec) (hb : c.code = cc) (harr : (Cond.arrayClass .boolean).before args s = true) (hE : va_K D vwCl (TY z) s) (hP : va_P D vwCl ws H) (hD : va_D A ws) (hS : va_S A H0 H locs) (hA : ∀ q, H0.size ≤ q → A q)
    {n : Int32} {N' : Nat} (hn : ¬ n < 0) (hN : n.toNatClampNeg = N') (hbytes : N' * 1 ≤ 536870912) (hcells : cells + 1 ≤ R.cells) (hslots : slots + N' ≤ R.slots) (hdg : decode cc pc = .ok (.newarray .boolean, 2))
    (kk : ∀ (a : Nat) (H1 : Heap), va_P D vwCl (ws ++ [(a, .inl (z 1, N', .inl (fun _ => 0)))]) H1 → va_D A (ws ++ [(a, .inl (z 1, N', .inl (fun _ => 0)))]) → va_S A H0 H1 locs → W p l e R s m args below meth c H1 locs (cells + 1) (slots + N') Q (F0 m (pc + 2) ls (.ref a :: rest))) : W p l e R s m args below meth c H locs cells slots Q (F0 m pc ls (.int n :: rest)) := by
  refine va_newa (atype := .boolean) (ty := .boolean) (a0 := (N', .inl (fun _ => 0))) hx hb harr rfl hE hP hD hS hA (fun _ => rfl) hn hN hbytes hcells hslots hdg (fun a cA H1 hK1 hP1 hD1 hS1 => ?_)
  obtain rfl : cA = z 1 := ty_same (k := 1) hK1 rfl (fun _ h => by cases h)
  exact kk a H1 hP1 hD1 hS1
theorem lpx {a : Int32} {n j : Nat} (c : a ≤ nI j) (hj : j ≤ n) (hn : n < 2 ^ 31) (ha : a = nI n) : j = n := by
  subst ha
  have := (nI_leI hn (Nat.lt_of_le_of_lt hj hn)).mp c
  omega
theorem lpn {a : Int32} {n j : Nat} (c : ¬ a ≤ nI j) (hj : j ≤ n) (hn : n < 2 ^ 31) (ha : a = nI n) : j < n := by
  subst ha
  have h2 : ¬ n ≤ j := fun h => c ((nI_leI hn (Nat.lt_of_le_of_lt hj hn)).mpr h)
  omega
theorem in_of {i : Int32} {n : Nat} (hn : n < 2 ^ 31) (h1 : ¬ i < 0) (h2 : ¬ nI n ≤ i) : vp_in i n := by
  rcases pk_ix i hn with h | h | ⟨j, hj, rfl⟩
  · exact absurd h h1
  · exact absurd h h2
  · exact vp_in_nI hj hn
theorem wrVv {wc wx w1 : va_W} {ci : Nat} {fs : List Value} {kq : vw_C} (S : CallFix p m c cc nL s args Ts own) (hM : WR l y ws rm D z q (.ref b :: As) wc H.size w1 none) (cw : CallW R s args own C index y bytes maxL ret ws rm 0 0 n)
    (hE : EV D z q A s s.heap) (hS : va_S A s.heap H locs) (hA : ∀ x : Nat, s.heap.size ≤ x → A x) (hP : va_P D vwCl wx H) (hD : va_D A wx) (is : List Nat) (hs : is.map (fun i => wx[i]?) = wc.map some) (hnd : va_nd is = true) (hlen : w1.length = is.length) (he : wc[0]? = some (b, .inr (ci, fs))) (hc : vwCl[ci]? = some kq) (hC : kq.1 = C)
    (hn : As.length = n) (hsz : ls.size = nL) (hst : st = As.reverse ++ .ref b :: rest) (hW : (rest.map fun v => v.category).sum ≤ 8) (hdg : decode cc pc = .ok (.invokevirtual index, 3)) (hf : cells + 0 ≤ R.cells ∧ slots + 0 ≤ R.slots)
    (kk : ∀ (H1 : Heap) (locs1 : List Loc), va_P D vwCl (mxA w1 is 0 wx) H1 → va_D A (mxA w1 is 0 wx) → va_S A s.heap H1 locs1 → W p l e R s m args below meth c H1 locs1 cells slots Q (F0 m (pc + 3) ls rest)) : W p l e R s m args below meth c H locs cells slots Q (F0 m pc ls st) := by
  have hPc := sub_map hP is hs
  have hDc := hD.sub is hnd hs
  have hFc := va_free hD hS hA is hs
  refine QW_run (va_runV S hM cw ⟨WP_blind, by subst hC; exact va_recv hE.1 hPc hc he, fun U hU hW => ⟨rfl, WP_of (wx := wx) hE hS hPc hDc hFc hU hW⟩⟩ rfl hn hsz hst (lv_room hW) hdg hf) hS hP hD is hs hlen hFc kk
theorem wrVi {wc wx w1 : va_W} {x : Int32} {ci : Nat} {fs : List Value} {kq : vw_C} (S : CallFix p m c cc nL s args Ts own) (hM : WR l y ws rm D z q (.ref b :: As) wc H.size w1 (some (.int x))) (cw : CallW R s args own C index y bytes maxL ret ws rm 0 0 n)
    (hE : EV D z q A s s.heap) (hS : va_S A s.heap H locs) (hA : ∀ x : Nat, s.heap.size ≤ x → A x) (hP : va_P D vwCl wx H) (hD : va_D A wx) (is : List Nat) (hs : is.map (fun i => wx[i]?) = wc.map some) (hnd : va_nd is = true) (hlen : w1.length = is.length) (he : wc[0]? = some (b, .inr (ci, fs))) (hc : vwCl[ci]? = some kq) (hC : kq.1 = C)
    (hn : As.length = n) (hsz : ls.size = nL) (hst : st = As.reverse ++ .ref b :: rest) (hW : (rest.map fun v => v.category).sum ≤ 8) (hdg : decode cc pc = .ok (.invokevirtual index, 3)) (hf : cells + 0 ≤ R.cells ∧ slots + 0 ≤ R.slots)
    (kk : ∀ (H1 : Heap) (locs1 : List Loc), va_P D vwCl (mxA w1 is 0 wx) H1 → va_D A (mxA w1 is 0 wx) → va_S A s.heap H1 locs1 → W p l e R s m args below meth c H1 locs1 cells slots Q (F0 m (pc + 3) ls (.int x :: rest))) : W p l e R s m args below meth c H locs cells slots Q (F0 m pc ls st) := by
  have hPc := sub_map hP is hs
  have hDc := hD.sub is hnd hs
  have hFc := va_free hD hS hA is hs
  refine QW_run (va_runV S hM cw ⟨WP_blind, by subst hC; exact va_recv hE.1 hPc hc he, fun U hU hW => ⟨rfl, WP_of (wx := wx) hE hS hPc hDc hFc hU hW⟩⟩ rfl hn hsz hst (lv_room hW) hdg hf) hS hP hD is hs hlen hFc kk
end COMB
