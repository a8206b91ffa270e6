/-! ===== the law's helpers: methods that call and catch ===== -/
theorem Met_of_vx {l : Launch} {y : MethodName} {ws : List Cond} {rm : Room} {Pc : Array Value → State → Prop} {Qc : Array Value → State → Outcome → State → Prop} {mc ms : Nat} {free : Addr → Prop} (h : vx_Met l y ws rm Pc Qc (fun _ _ _ => False) mc ms free) : Met l y ws rm Pc Qc mc ms free := by
  intro p e h1 h2 h3 s m args below hf ha hp hk
  obtain ⟨n, o, a1, a2, a3, a4⟩ := h p e h1 h2 h3 s m args below hf ha hp hk
  refine ⟨n, o, a1, a2, a3, ?_⟩
  rcases a4 with a4 | ⟨q, -, E, ce, L, hx, -⟩
  · exact a4
  · exact hx.elim
abbrev HW (l : Launch) (y : MethodName) (ws : List Cond) (rm : Room) (D : va_G) (z : Nat → ClassId) (q : Nat → Nat) (As : List Value) (w : va_W) (sz : Nat) (w1 : va_W) (v : Option Value) : Prop := Met l y ws rm (va_Pc As (WP D z q w sz)) (QW D w1 (va_A w sz) v) 3 18 (va_A w sz)
abbrev HN (l : Launch) (y : MethodName) (ws : List Cond) (rm : Room) (D : va_G) (z : Nat → ClassId) (q : Nat → Nat) (As : List Value) (w : va_W) (sz : Nat) (w1 : va_W) (v : Option Value) (mc ms : Nat) : Prop := Met l y ws rm (va_Pc As (WP D z q w sz)) (QW D w1 (va_A w sz) v) mc ms (va_A w sz)
theorem HW_mk {l : Launch} {y : MethodName} {ws ws' : List Cond} {rm : Room} {cc : ByteArray} {maxL : Nat} {ret : Option FieldType} {hh : List (Nat × Nat × Nat × Nat)} {D : va_G} {z : Nat → ClassId} {q : Nat → Nat} {As : List Value} {w w1 : va_W} {sz : Nat} {v : Option Value} (hy : plainName y.cls = true) (hw : ws = Cond.codeWith y cc maxL ret hh :: ws') (hn : (lg_sl As).length ≤ maxL)
    (body : ∀ (p : Program) (e : Env) (s : State) (m : MethodId) (below : List Frame) (meth : Method) (c : Code) (A : Nat → Prop), p.tables.exec = Jvm.exec → c.code = cc → meth.sig.returnType = ret → c.maxLocals = maxL → (∀ w ∈ ws, w.before As.toArray s = true) → s.vm.findClass y.cls = some m.cls → meth.locks = false → c.exceptionTable.toList = tableOf hh → ∀ H : Heap, va_P D vwCl w H → va_D A w → EV D z q A s s.heap → va_S A s.heap H [] → (∀ x : Nat, s.heap.size ≤ x → A x) →
      ∀ ls : Array Slot, lv_has ls maxL (lv_args 0 As) → W p l e rm s m As.toArray below meth c H [] 0 0 (vx_MQ below (QW D w1 A v) (fun _ _ _ => False) As.toArray s 3 18 A) (F0 m 0 ls [])) : HW l y ws rm D z q As w sz w1 v := by
  refine Met_of_vx (vx_ofWH (cc := cc) (maxL := maxL) (ret := ret) (hh := hh) hy hw ?_)
  intro p e s m args below meth c s₁ B hml hv
  obtain ⟨rfl, rfl, hP, hD, hE⟩ := hv
  rw [lg_entry_eq]
  have hts := atoms_spec (ws := ws) B.pre
  exact body p e s m below meth c (va_A w s.heap.size) B.exec B.bytes B.returns hml hts (findClass_of_methodNamed B.named) B.notSynchronized (vx_table (x := y) B (hts _ (by rw [hw]; exact List.mem_cons_self))) s.heap hP hD.self hE va_S.rf (fun _ h => Or.inr h) _ (lv_entry As hn)
theorem mxA_len (w1 : va_W) (isC : List Nat) : ∀ (wx : va_W) (k : Nat), (mxA w1 isC k wx).length = wx.length
  | [], _ => rfl
  | x :: r, k => by rw [mxA, List.length_cons, List.length_cons, mxA_len w1 isC r (k + 1)]
theorem mxA_same {wc wx : va_W} {is : List Nat} (hs : is.map (fun i => wx[i]?) = wc.map some) : mxA wc is 0 wx = wx := by
  have hlen : wc.length = is.length := by have := congrArg List.length hs; simpa using this.symm
  refine List.ext_getElem? fun k => ?_
  cases h : (mxA wc is 0 wx)[k]? with
  | none => rw [List.getElem?_eq_none_iff, mxA_len] at h; exact (List.getElem?_eq_none_iff.mpr h).symm
  | some x =>
    rcases mxA_spec hlen wx 0 k x h with ⟨j, h1, h2⟩ | ⟨-, h2⟩
    · rw [Nat.zero_add] at h1
      have h3 := congrArg (fun t : List (Option (Nat × va_E)) => t[j]?) hs
      simp only [List.getElem?_map, h1, h2, Option.map_some] at h3
      exact (Option.some.inj h3).symm
    · exact h2.symm
section LCOMB
variable {p : Program} {l : Launch} {e : Env} {R : Room} {s : State} {m : MethodId} {args : Array Value} {below : List Frame} {meth : Method} {c : Code} {H : Heap} {locs : List Loc} {cells slots : Nat} {Q : State → Prop}
variable {D : va_G} {z : Nat → ClassId} {q : Nat → Nat} {A : Nat → Prop} {cc bytes : ByteArray} {pc nL maxL index n : Nat} {ls : Array Slot} {Ts ws ws' : List Cond} {own C : String} {y : MethodName} {ret : Option FieldType} {rm : Room} {b : Nat} {As rest st : List Value}
theorem hw_i {w1 w2 : va_W} {v x : Int32} (hx : p.tables.exec = Jvm.exec) (hb : c.code = cc) (hr : meth.sig.returnType = some .int) (hlocks : meth.locks = false) (hP : va_P D vwCl w2 H) (hD : va_D A w2) (hS : va_S A s.heap H locs) (hd : decode cc pc = .ok (.ireturn, 1)) (hw : w2 = w1) (hv : x = v) (hc : cells ≤ 3) (hs : slots ≤ 18) :
    W p l e R s m args below meth c H locs cells slots (vx_MQ below (QW D w1 A (some (.int v))) (fun _ _ _ => False) args s 3 18 A) (F0 m pc ls [.int x]) := by
  subst hw; subst hv
  exact vx_ret (W.widen hc hs (W.iret hx hb hr (fun t ht _ => ⟨⟨rfl, by rw [ht]; exact hP, hD⟩, hS.F ht⟩) hS.2.2 hd hlocks))
theorem txV {wc wx w1 : va_W} {v : Option Value} {ok : Prop} {bad : String → Prop} {ci : Nat} {fs : List Value} {kq : vw_C} (S : CallFix p m c cc nL s args Ts own) (hM : TX l y ws rm D z q (.ref b :: As) wc H.size w1 v ok bad) (cw : CallW R s args own C index y bytes maxL ret ws rm 3 18 n)
    (hE : EV D z q A s s.heap) (hS : va_S A s.heap H locs) (hA : ∀ x : Nat, s.heap.size ≤ x → A x) (hP : va_P D vwCl wx H) (hD : va_D A wx) (is : List Nat) (hs : is.map (fun i => wx[i]?) = wc.map some) (hnd : va_nd is = true) (hlen : w1.length = is.length) (he : wc[0]? = some (b, .inr (ci, fs))) (hc : vwCl[ci]? = some kq) (hC : kq.1 = C)
    (hn : As.length = n) (hsz : ls.size = nL) (hst : st = As.reverse ++ .ref b :: rest) (hW : (rest.map fun v => v.category).sum ≤ 8) (hdg : decode cc pc = .ok (.invokevirtual index, 3)) (hf : cells + 3 ≤ R.cells ∧ slots + 18 ≤ R.slots)
    (kx : ∀ (E : String) (ce : Cell) (q9 : Addr) (H1 : Heap) (locs1 : List Loc), bad E → va_P D vwCl wx H1 → va_D A wx → va_S A s.heap H1 locs1 → H1[q9]? = some ce → ce.vm = .none → s.vm.findClass E = some ce.cls → vx_W p l e R s m args below meth c H1 locs1 (cells + 3) (slots + 18) Q (F0 m pc ls rest) q9)
    (kk : ok → ∀ (H1 : Heap) (locs1 : List Loc), va_P D vwCl (mxA w1 is 0 wx) H1 → va_D A (mxA w1 is 0 wx) → va_S A s.heap H1 locs1 → W p l e R s m args below meth c H1 locs1 (cells + 3) (slots + 18) Q (F0 m (pc + 3) ls (v.toList ++ rest))) : W p l e R s m args below meth c H locs cells slots Q (F0 m pc ls st) := by
  have hPc := sub_map hP is hs
  have hDc := hD.sub is hnd hs
  have hFc := va_free hD hS hA is hs
  intro T hT X
  rcases vx_runV S hM cw ⟨WP_blind, by subst hC; exact va_recv hE.1 hPc hc he, fun U hU hW => ⟨rfl, WP_of (wx := wx) hE hS hPc hDc hFc hU hW⟩⟩ rfl hn hsz hst (lv_room hW) hdg hf T hT X with ⟨v, st₀, t, T', L, h0, X', hL, e1, e2, ⟨hok, ⟨hv, hP1, hD1⟩, hz, hk⟩, st⟩ | ⟨q9, st₀, t, T', L, E, ce, h0, X', hL, e1, e2, ⟨hb1, hz, hk⟩, hce, hcv, hcl, st⟩
  · cases hv
    rw [h0] at hz hk
    obtain ⟨g1, g2⟩ := mx_join (H1 := T'.heap) hP hD is hs hlen (fun q h1 h2 => by rw [e1]; exact hk q h1 h2) hFc (by rw [e1]; exact hP1) hD1
    obtain ⟨t2, a1, b1⟩ := kk hok T'.heap (locs ++ L) g1 g2
      ⟨Nat.le_trans hS.1 (by rw [e1]; exact hz), fun q h1 h2 => by rw [e1, hk q (Nat.lt_of_lt_of_le h1 hS.1) (fun z => h2 (hFc q z))]; exact hS.2.1 q h1 h2, fun q hq => by
        rcases List.mem_append.mp hq with h | h
        · exact hS.2.2 q h
        · exact hFc _ (hL q h)⟩ T' rfl X'
    exact ⟨t2, st t2 a1, b1⟩
  · rw [h0] at hz hk
    obtain ⟨t2, a1, b1⟩ := kx E ce q9 T'.heap (locs ++ L) hb1 (hP.kept (fun k x hx => by rw [e1]; exact hk x.1 (hP k x hx).lt (fun h => h))) hD
      ⟨Nat.le_trans hS.1 (by rw [e1]; exact hz), fun q h1 h2 => by rw [e1, hk q (Nat.lt_of_lt_of_le h1 hS.1) (fun h => h)]; exact hS.2.1 q h1 h2, fun q hq => by
        rcases List.mem_append.mp hq with h | h
        · exact hS.2.2 q h
        · exact hFc _ (hL q h)⟩ (by rw [e1]; exact hce) hcv hcl T' rfl X'
    exact ⟨t2, st.trans a1, b1⟩
/-- the law calls a helper -/
theorem hwS {wc wx w1 : va_W} {x : Int32} {hh : List (Nat × Nat × Nat × Nat)} (S : CallFix p m c cc nL s args Ts own) (hM : HW l y ws rm D z q As wc H.size w1 (some (.int x))) (cw : vx_CSW R s args own index y bytes maxL ret hh ws rm 3 18 n)
    (hE : EV D z q A s s.heap) (hS : va_S A s.heap H locs) (hA : ∀ x : Nat, s.heap.size ≤ x → A x) (hP : va_P D vwCl wx H) (hD : va_D A wx) (is : List Nat) (hs : is.map (fun i => wx[i]?) = wc.map some) (hnd : va_nd is = true) (hlen : w1.length = is.length)
    (hn : As.length = n) (hsz : ls.size = nL) (hst : st = As.reverse ++ rest) (hW : (rest.map fun v => v.category).sum ≤ 8) (hdg : decode cc pc = .ok (.invokestatic index, 3)) (hf : cells + 3 ≤ R.cells ∧ slots + 18 ≤ R.slots)
    (kk : ∀ (H1 : Heap) (locs1 : List Loc), va_P D vwCl (mxA w1 is 0 wx) H1 → va_D A (mxA w1 is 0 wx) → va_S A s.heap H1 locs1 → W p l e R s m args below meth c H1 locs1 (cells + 3) (slots + 18) Q (F0 m (pc + 3) ls (.int x :: rest))) : W p l e R s m args below meth c H locs cells slots Q (F0 m pc ls st) := by
  have hPc := sub_map hP is hs
  have hDc := hD.sub is hnd hs
  have hFc := va_free hD hS hA is hs
  intro T hT X
  obtain ⟨v, st₀, t, T', L, h0, X', hL, e1, e2, ⟨⟨hv, hP1, hD1⟩, hz, hk⟩, st⟩ := vx_runSW S hM cw ⟨WP_blind, fun U hU hW => ⟨rfl, WP_of (wx := wx) hE hS hPc hDc hFc hU hW⟩⟩ rfl hn hsz hst (lv_room hW) hdg hf T hT X
  cases hv
  rw [h0] at hz hk
  obtain ⟨g1, g2⟩ := mx_join (H1 := T'.heap) hP hD is hs hlen (fun q h1 h2 => by rw [e1]; exact hk q h1 h2) hFc (by rw [e1]; exact hP1) hD1
  obtain ⟨t2, a1, b1⟩ := kk T'.heap (locs ++ L) g1 g2
    ⟨Nat.le_trans hS.1 (by rw [e1]; exact hz), fun q h1 h2 => by rw [e1, hk q (Nat.lt_of_lt_of_le h1 hS.1) (fun z => h2 (hFc q z))]; exact hS.2.1 q h1 h2, fun q hq => by
      rcases List.mem_append.mp hq with h | h
      · exact hS.2.2 q h
      · exact hFc _ (hL q h)⟩ T' rfl X'
  exact ⟨t2, st t2 a1, b1⟩
/-- a call that may throw, out of a method that lets it pass -/
theorem txP {wc wx w1 : va_W} {v : Option Value} {ok : Prop} {bad bad1 : String → Prop} {mc ms : Nat} {Qc : Array Value → State → Outcome → State → Prop} {ci : Nat} {fs : List Value} {kq : vw_C} (S : CallFix p m c cc nL s args Ts own) (hM : TX l y ws rm D z q (.ref b :: As) wc H.size w1 v ok bad1) (cw : CallW R s args own C index y bytes maxL ret ws rm 3 18 n)
    (hE : EV D z q A s s.heap) (hS : va_S A s.heap H []) (hA : ∀ x : Nat, s.heap.size ≤ x → A x) (hP : va_P D vwCl wx H) (hD : va_D A wx) (is : List Nat) (hs : is.map (fun i => wx[i]?) = wc.map some) (hnd : va_nd is = true) (hlen : w1.length = is.length) (he : wc[0]? = some (b, .inr (ci, fs))) (hc : vwCl[ci]? = some kq) (hC : kq.1 = C) (hH0 : H = s.heap) (hout : ∀ x ∈ c.exceptionTable.toList, False) (hlocks : meth.locks = false)
    (hn : As.length = n) (hsz : ls.size = nL) (hst : st = As.reverse ++ .ref b :: rest) (hW : (rest.map fun v => v.category).sum ≤ 8) (hdg : decode cc pc = .ok (.invokevirtual index, 3)) (hf : cells + 3 ≤ R.cells ∧ slots + 18 ≤ R.slots) (hbad : ∀ E, bad1 E → bad E) (hmc : cells + 3 ≤ mc) (hms : slots + 18 ≤ ms)
    (kk : ok → ∀ (H1 : Heap) (locs1 : List Loc), va_P D vwCl (mxA w1 is 0 wx) H1 → va_D A (mxA w1 is 0 wx) → va_S A s.heap H1 locs1 → W p l e R s m args below meth c H1 locs1 (cells + 3) (slots + 18) (vx_MQ below Qc (XK bad) args s mc ms A) (F0 m (pc + 3) ls (v.toList ++ rest))) : W p l e R s m args below meth c H [] cells slots (vx_MQ below Qc (XK bad) args s mc ms A) (F0 m pc ls st) := by
  have hPc := sub_map hP is hs
  have hDc := hD.sub is hnd hs
  have hFc := va_free hD hS hA is hs
  intro T hT X
  rcases vx_runV S hM cw ⟨WP_blind, by subst hC; exact va_recv hE.1 hPc hc he, fun U hU hW => ⟨rfl, WP_of (wx := wx) hE hS hPc hDc hFc hU hW⟩⟩ rfl hn hsz hst (lv_room hW) hdg hf T hT X with ⟨v, st₀, t, T', L, h0, X', hL, e1, e2, ⟨hok, ⟨hv, hP1, hD1⟩, hz, hk⟩, st⟩ | ⟨q9, st₀, t, T', L, E, ce, h0, X', hL, e1, e2, ⟨hb1, hF⟩, hce, hcv, hcl, st⟩
  · cases hv
    rw [h0] at hz hk
    obtain ⟨g1, g2⟩ := mx_join (H1 := T'.heap) hP hD is hs hlen (fun q h1 h2 => by rw [e1]; exact hk q h1 h2) hFc (by rw [e1]; exact hP1) hD1
    obtain ⟨t2, a1, b1⟩ := kk hok T'.heap ([] ++ L) g1 g2
      ⟨Nat.le_trans hS.1 (by rw [e1]; exact hz), fun q h1 h2 => by rw [e1, hk q (Nat.lt_of_lt_of_le h1 hS.1) (fun z => h2 (hFc q z))]; exact hS.2.1 q h1 h2, fun q hq => by
        rcases List.mem_append.mp hq with h | h
        · cases h
        · exact hFc _ (hL q h)⟩ T' rfl X'
    exact ⟨t2, st t2 a1, b1⟩
  · rw [va_F, h0, hH0] at hF
    obtain ⟨t2, a1, b1⟩ := vx_out (Qc := Qc) (XC := XK bad) (free := A) (mc := mc) (ms := ms) (pc := pc) (rest := rest) (ls := ls) (H := T'.heap) (fun x hx => (hout x hx).elim) hlocks (by rw [e1]; exact hce) hcv hcl (fun t9 h9 _ => ⟨hbad E hb1, by rw [h9, e1]; exact hF.1, fun q h1 h2 => by rw [h9, e1]; exact hF.2 q h1 h2⟩) (fun z hz => by
      rcases List.mem_append.mp hz with h | h
      · cases h
      · exact hFc _ (hL z h)) hmc hms T' rfl X'
    exact ⟨t2, st.trans a1, b1⟩
/-- a static call that may throw -/
theorem txS {wc wx w1 : va_W} {v : Option Value} {ok : Prop} {bad : String → Prop} (S : CallFix p m c cc nL s args Ts own) (hM : TX l y ws rm D z q As wc H.size w1 v ok bad) (cw : CallB R s args own index y bytes maxL ret ws rm 3 18 n ∧ (Cond.static y).before args s = true)
    (hE : EV D z q A s s.heap) (hS : va_S A s.heap H locs) (hA : ∀ x : Nat, s.heap.size ≤ x → A x) (hP : va_P D vwCl wx H) (hD : va_D A wx) (is : List Nat) (hs : is.map (fun i => wx[i]?) = wc.map some) (hnd : va_nd is = true) (hlen : w1.length = is.length)
    (hn : As.length = n) (hsz : ls.size = nL) (hst : st = As.reverse ++ rest) (hW : (rest.map fun v => v.category).sum ≤ 8) (hdg : decode cc pc = .ok (.invokestatic index, 3)) (hf : cells + 3 ≤ R.cells ∧ slots + 18 ≤ R.slots)
    (kx : ∀ (E : String) (ce : Cell) (q9 : Addr) (H1 : Heap) (locs1 : List Loc), bad E → va_P D vwCl wx H1 → va_D A wx → va_S A s.heap H1 locs1 → H1[q9]? = some ce → ce.vm = .none → s.vm.findClass E = some ce.cls → vx_W p l e R s m args below meth c H1 locs1 (cells + 3) (slots + 18) Q (F0 m pc ls rest) q9)
    (kk : ok → ∀ (H1 : Heap) (locs1 : List Loc), va_P D vwCl (mxA w1 is 0 wx) H1 → va_D A (mxA w1 is 0 wx) → va_S A s.heap H1 locs1 → W p l e R s m args below meth c H1 locs1 (cells + 3) (slots + 18) Q (F0 m (pc + 3) ls (v.toList ++ rest))) : W p l e R s m args below meth c H locs cells slots Q (F0 m pc ls st) := by
  have hPc := sub_map hP is hs
  have hDc := hD.sub is hnd hs
  have hFc := va_free hD hS hA is hs
  intro T hT X
  rcases vx_runS S hM cw ⟨WP_blind, fun U hU hW => ⟨rfl, WP_of (wx := wx) hE hS hPc hDc hFc hU hW⟩⟩ rfl hn hsz hst (lv_room hW) hdg hf T hT X with ⟨v, st₀, t, T', L, h0, X', hL, e1, e2, ⟨hok, ⟨hv, hP1, hD1⟩, hz, hk⟩, st⟩ | ⟨q9, st₀, t, T', L, E, ce, h0, X', hL, e1, e2, ⟨hb1, hz, hk⟩, hce, hcv, hcl, st⟩
  · cases hv
    rw [h0] at hz hk
    obtain ⟨g1, g2⟩ := mx_join (H1 := T'.heap) hP hD is hs hlen (fun q h1 h2 => by rw [e1]; exact hk q h1 h2) hFc (by rw [e1]; exact hP1) hD1
    obtain ⟨t2, a1, b1⟩ := kk hok T'.heap (locs ++ L) g1 g2
      ⟨Nat.le_trans hS.1 (by rw [e1]; exact hz), fun q h1 h2 => by rw [e1, hk q (Nat.lt_of_lt_of_le h1 hS.1) (fun z => h2 (hFc q z))]; exact hS.2.1 q h1 h2, fun q hq => by
        rcases List.mem_append.mp hq with h | h
        · exact hS.2.2 q h
        · exact hFc _ (hL q h)⟩ T' rfl X'
    exact ⟨t2, st t2 a1, b1⟩
  · rw [h0] at hz hk
    obtain ⟨t2, a1, b1⟩ := kx E ce q9 T'.heap (locs ++ L) hb1 (hP.kept (fun k x hx => by rw [e1]; exact hk x.1 (hP k x hx).lt (fun h => h))) hD
      ⟨Nat.le_trans hS.1 (by rw [e1]; exact hz), fun q h1 h2 => by rw [e1, hk q (Nat.lt_of_lt_of_le h1 hS.1) (fun h => h)]; exact hS.2.1 q h1 h2, fun q hq => by
        rcases List.mem_append.mp hq with h | h
        · exact hS.2.2 q h
        · exact hFc _ (hL q h)⟩ (by rw [e1]; exact hce) hcv hcl T' rfl X'
    exact ⟨t2, st.trans a1, b1⟩
/-- a static call that makes cells and doesn't throw -/
theorem hnS {wc wx w1 : va_W} {x : Int32} {mc ms : Nat} (S : CallFix p m c cc nL s args Ts own) (hM : HN l y ws rm D z q As wc H.size w1 (some (.int x)) mc ms) (cw : CallB R s args own index y bytes maxL ret ws rm mc ms n ∧ (Cond.static y).before args s = true)
    (hE : EV D z q A s s.heap) (hS : va_S A s.heap H locs) (hA : ∀ x : Nat, s.heap.size ≤ x → A x) (hP : va_P D vwCl wx H) (hD : va_D A wx) (is : List Nat) (hs : is.map (fun i => wx[i]?) = wc.map some) (hnd : va_nd is = true) (hlen : w1.length = is.length)
    (hn : As.length = n) (hsz : ls.size = nL) (hst : st = As.reverse ++ rest) (hW : (rest.map fun v => v.category).sum ≤ 8) (hdg : decode cc pc = .ok (.invokestatic index, 3)) (hf : cells + mc ≤ R.cells ∧ slots + ms ≤ R.slots)
    (kk : ∀ (H1 : Heap) (locs1 : List Loc), va_P D vwCl (mxA w1 is 0 wx) H1 → va_D A (mxA w1 is 0 wx) → va_S A s.heap H1 locs1 → W p l e R s m args below meth c H1 locs1 (cells + mc) (slots + ms) Q (F0 m (pc + 3) ls (.int x :: rest))) : W p l e R s m args below meth c H locs cells slots Q (F0 m pc ls st) := by
  have hPc := sub_map hP is hs
  have hDc := hD.sub is hnd hs
  have hFc := va_free hD hS hA is hs
  intro T hT X
  obtain ⟨v, st₀, t, T', L, h0, X', hL, e1, e2, ⟨⟨hv, hP1, hD1⟩, hz, hk⟩, st⟩ := va_runS S hM cw ⟨WP_blind, fun U hU hW => ⟨rfl, WP_of (wx := wx) hE hS hPc hDc hFc hU hW⟩⟩ rfl hn hsz hst (lv_room hW) hdg hf T hT X
  cases hv
  rw [h0] at hz hk
  obtain ⟨g1, g2⟩ := mx_join (H1 := T'.heap) hP hD is hs hlen (fun q h1 h2 => by rw [e1]; exact hk q h1 h2) hFc (by rw [e1]; exact hP1) hD1
  obtain ⟨t2, a1, b1⟩ := kk T'.heap (locs ++ L) g1 g2
    ⟨Nat.le_trans hS.1 (by rw [e1]; exact hz), fun q h1 h2 => by rw [e1, hk q (Nat.lt_of_lt_of_le h1 hS.1) (fun z => h2 (hFc q z))]; exact hS.2.1 q h1 h2, fun q hq => by
      rcases List.mem_append.mp hq with h | h
      · exact hS.2.2 q h
      · exact hFc _ (hL q h)⟩ T' rfl X'
  exact ⟨t2, st t2 a1, b1⟩
/-- a call that reads, known not to throw -/
theorem txR {wc wx : va_W} {x : Int32} {ok : Prop} {bad : String → Prop} {ci : Nat} {fs : List Value} {kq : vw_C} (S : CallFix p m c cc nL s args Ts own) (hM : TX l y ws rm D z q (.ref b :: As) wc H.size wc (some (.int x)) ok bad) (cw : CallW R s args own C index y bytes maxL ret ws rm 3 18 n)
    (hE : EV D z q A s s.heap) (hS : va_S A s.heap H locs) (hA : ∀ x : Nat, s.heap.size ≤ x → A x) (hP : va_P D vwCl wx H) (hD : va_D A wx) (is : List Nat) (hs : is.map (fun i => wx[i]?) = wc.map some) (hnd : va_nd is = true) (he : wc[0]? = some (b, .inr (ci, fs))) (hc : vwCl[ci]? = some kq) (hC : kq.1 = C)
    (hn : As.length = n) (hsz : ls.size = nL) (hst : st = As.reverse ++ .ref b :: rest) (hW : (rest.map fun v => v.category).sum ≤ 8) (hdg : decode cc pc = .ok (.invokevirtual index, 3)) (hf : cells + 3 ≤ R.cells ∧ slots + 18 ≤ R.slots)
    (kx : ∀ E : String, bad E → False)
    (kk : ∀ (H1 : Heap) (locs1 : List Loc), va_P D vwCl wx H1 → va_D A wx → va_S A s.heap H1 locs1 → W p l e R s m args below meth c H1 locs1 (cells + 3) (slots + 18) Q (F0 m (pc + 3) ls (.int x :: rest))) : W p l e R s m args below meth c H locs cells slots Q (F0 m pc ls st) := by
  refine txV S hM cw hE hS hA hP hD is hs hnd (by have := congrArg List.length hs; simpa using this.symm) he hc hC hn hsz hst hW hdg hf (fun E _ _ _ _ hb1 _ _ _ _ _ _ => (kx E hb1).elim) (fun _ H1 locs1 g1 g2 g3 => ?_)
  rw [mxA_same hs] at g1 g2
  exact kk H1 locs1 g1 g2 g3
end LCOMB
theorem in0 : vp_in 0 1 := vp_in_nI (n := 0) (by omega) (by omega)
