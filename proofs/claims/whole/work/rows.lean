section
-- ===== PART A: goes FIRST, ahead of the names: the tables' words, and 'selects' of the private methods out of them =====
/-- a private method of a class that the tables say can be made, by its rows of tables_1 -/
def lw_okq (q : MethodName × Nat) : Prop := (q.1.cls ≠ "java/lang/invoke/MethodHandle" ∧ q.1.cls ≠ "java/lang/invoke/VarHandle") ∧ Cond.instantiable q.1.cls q.2 ∈ tables_1 ∧ Cond.privateMethod q.1 ∈ tables_1 ∧ Cond.instanceMethod q.1 ∈ tables_1
theorem lw_p0 : lw_okq (⟨"TypingCoach$Lesson", "rightStrokes", "()I"⟩, 6) := ⟨⟨by decide +kernel, by decide +kernel⟩, List.mem_of_getElem? (i := 106) (by decide +kernel), List.mem_of_getElem? (i := 196) (by decide +kernel), List.mem_of_getElem? (i := 197) (by decide +kernel)⟩
theorem lw_p1 : lw_okq (⟨"java/lang/Throwable", "fillInStackTrace", "(I)Ljava/lang/Throwable;"⟩, 6) := ⟨⟨by decide +kernel, by decide +kernel⟩, List.mem_of_getElem? (i := 304) (by decide +kernel), List.mem_of_getElem? (i := 302) (by decide +kernel), List.mem_of_getElem? (i := 303) (by decide +kernel)⟩
theorem lw_p2 : lw_okq (⟨"TypingCoach$Board", "columnOf", "(I)I"⟩, 2) := ⟨⟨by decide +kernel, by decide +kernel⟩, List.mem_of_getElem? (i := 26) (by decide +kernel), List.mem_of_getElem? (i := 351) (by decide +kernel), List.mem_of_getElem? (i := 352) (by decide +kernel)⟩
theorem lw_p3 : lw_okq (⟨"TypingCoach$Board", "rowOf", "(I)I"⟩, 2) := ⟨⟨by decide +kernel, by decide +kernel⟩, List.mem_of_getElem? (i := 26) (by decide +kernel), List.mem_of_getElem? (i := 371) (by decide +kernel), List.mem_of_getElem? (i := 372) (by decide +kernel)⟩
theorem lw_p4 : lw_okq (⟨"TypingCoach", "kindOfStroke", "(II)I"⟩, 8) := ⟨⟨by decide +kernel, by decide +kernel⟩, List.mem_of_getElem? (i := 18) (by decide +kernel), List.mem_of_getElem? (i := 478) (by decide +kernel), List.mem_of_getElem? (i := 479) (by decide +kernel)⟩
theorem lw_p5 : lw_okq (⟨"TypingCoach$LettersIn", "takeOut", "()Z"⟩, 2) := ⟨⟨by decide +kernel, by decide +kernel⟩, List.mem_of_getElem? (i := 92) (by decide +kernel), List.mem_of_getElem? (i := 537) (by decide +kernel), List.mem_of_getElem? (i := 538) (by decide +kernel)⟩
theorem lw_p6 : lw_okq (⟨"TypingCoach$LettersIn", "areAllGood", "()Z"⟩, 2) := ⟨⟨by decide +kernel, by decide +kernel⟩, List.mem_of_getElem? (i := 92) (by decide +kernel), List.mem_of_getElem? (i := 549) (by decide +kernel), List.mem_of_getElem? (i := 550) (by decide +kernel)⟩
theorem lw_p7 : lw_okq (⟨"TypingCoach$LettersIn", "letIn", "()I"⟩, 2) := ⟨⟨by decide +kernel, by decide +kernel⟩, List.mem_of_getElem? (i := 92) (by decide +kernel), List.mem_of_getElem? (i := 557) (by decide +kernel), List.mem_of_getElem? (i := 558) (by decide +kernel)⟩
theorem lw_p8 : lw_okq (⟨"TypingCoachModel", "holds", "(I)Z"⟩, 20) := ⟨⟨by decide +kernel, by decide +kernel⟩, List.mem_of_getElem? (i := 648) (by decide +kernel), List.mem_of_getElem? (i := 729) (by decide +kernel), List.mem_of_getElem? (i := 730) (by decide +kernel)⟩
theorem lw_p9 : lw_okq (⟨"TypingCoachModel", "letterAt", "(I)I"⟩, 20) := ⟨⟨by decide +kernel, by decide +kernel⟩, List.mem_of_getElem? (i := 648) (by decide +kernel), List.mem_of_getElem? (i := 733) (by decide +kernel), List.mem_of_getElem? (i := 734) (by decide +kernel)⟩
theorem lw_p10 : lw_okq (⟨"TypingCoachModel", "fingerOf", "(I)I"⟩, 20) := ⟨⟨by decide +kernel, by decide +kernel⟩, List.mem_of_getElem? (i := 648) (by decide +kernel), List.mem_of_getElem? (i := 741) (by decide +kernel), List.mem_of_getElem? (i := 742) (by decide +kernel)⟩
theorem lw_p11 : lw_okq (⟨"TypingCoachModel", "isBeside", "(II)Z"⟩, 20) := ⟨⟨by decide +kernel, by decide +kernel⟩, List.mem_of_getElem? (i := 648) (by decide +kernel), List.mem_of_getElem? (i := 749) (by decide +kernel), List.mem_of_getElem? (i := 750) (by decide +kernel)⟩
theorem lw_p12 : lw_okq (⟨"TypingCoachModel", "mirrorOf", "(I)I"⟩, 20) := ⟨⟨by decide +kernel, by decide +kernel⟩, List.mem_of_getElem? (i := 648) (by decide +kernel), List.mem_of_getElem? (i := 757) (by decide +kernel), List.mem_of_getElem? (i := 758) (by decide +kernel)⟩
theorem lw_p13 : lw_okq (⟨"TypingCoachModel", "wants", "(I)V"⟩, 20) := ⟨⟨by decide +kernel, by decide +kernel⟩, List.mem_of_getElem? (i := 648) (by decide +kernel), List.mem_of_getElem? (i := 765) (by decide +kernel), List.mem_of_getElem? (i := 766) (by decide +kernel)⟩
theorem lw_p14 : lw_okq (⟨"TypingCoachModel", "weakestOf", "()I"⟩, 20) := ⟨⟨by decide +kernel, by decide +kernel⟩, List.mem_of_getElem? (i := 648) (by decide +kernel), List.mem_of_getElem? (i := 773) (by decide +kernel), List.mem_of_getElem? (i := 774) (by decide +kernel)⟩
theorem lw_p15 : lw_okq (⟨"TypingCoachModel", "behind", "(I)I"⟩, 20) := ⟨⟨by decide +kernel, by decide +kernel⟩, List.mem_of_getElem? (i := 648) (by decide +kernel), List.mem_of_getElem? (i := 777) (by decide +kernel), List.mem_of_getElem? (i := 778) (by decide +kernel)⟩
def lw_privs_1 : List (MethodName × Nat) := [(⟨"TypingCoach$Lesson", "rightStrokes", "()I"⟩, 6), (⟨"java/lang/Throwable", "fillInStackTrace", "(I)Ljava/lang/Throwable;"⟩, 6), (⟨"TypingCoach$Board", "columnOf", "(I)I"⟩, 2), (⟨"TypingCoach$Board", "rowOf", "(I)I"⟩, 2), (⟨"TypingCoach", "kindOfStroke", "(II)I"⟩, 8), (⟨"TypingCoach$LettersIn", "takeOut", "()Z"⟩, 2), (⟨"TypingCoach$LettersIn", "areAllGood", "()Z"⟩, 2), (⟨"TypingCoach$LettersIn", "letIn", "()I"⟩, 2), (⟨"TypingCoachModel", "holds", "(I)Z"⟩, 20), (⟨"TypingCoachModel", "letterAt", "(I)I"⟩, 20), (⟨"TypingCoachModel", "fingerOf", "(I)I"⟩, 20), (⟨"TypingCoachModel", "isBeside", "(II)Z"⟩, 20), (⟨"TypingCoachModel", "mirrorOf", "(I)I"⟩, 20), (⟨"TypingCoachModel", "wants", "(I)V"⟩, 20), (⟨"TypingCoachModel", "weakestOf", "()I"⟩, 20), (⟨"TypingCoachModel", "behind", "(I)I"⟩, 20)]
theorem lw_r1 : ∀ q ∈ lw_privs_1, lw_okq q := List.forall_mem_cons.mpr ⟨lw_p0, List.forall_mem_cons.mpr ⟨lw_p1, List.forall_mem_cons.mpr ⟨lw_p2, List.forall_mem_cons.mpr ⟨lw_p3, List.forall_mem_cons.mpr ⟨lw_p4, List.forall_mem_cons.mpr ⟨lw_p5, List.forall_mem_cons.mpr ⟨lw_p6, List.forall_mem_cons.mpr ⟨lw_p7, List.forall_mem_cons.mpr ⟨lw_p8, List.forall_mem_cons.mpr ⟨lw_p9, List.forall_mem_cons.mpr ⟨lw_p10, List.forall_mem_cons.mpr ⟨lw_p11, List.forall_mem_cons.mpr ⟨lw_p12, List.forall_mem_cons.mpr ⟨lw_p13, List.forall_mem_cons.mpr ⟨lw_p14, List.forall_mem_cons.mpr ⟨lw_p15, fun _ h => absurd h List.not_mem_nil⟩⟩⟩⟩⟩⟩⟩⟩⟩⟩⟩⟩⟩⟩⟩⟩
theorem lw_p16 : lw_okq (⟨"TypingCoachModel", "errorOf", "(I)I"⟩, 20) := ⟨⟨by decide +kernel, by decide +kernel⟩, List.mem_of_getElem? (i := 648) (by decide +kernel), List.mem_of_getElem? (i := 797) (by decide +kernel), List.mem_of_getElem? (i := 798) (by decide +kernel)⟩
theorem lw_p17 : lw_okq (⟨"TypingCoachModel", "speedNow", "()I"⟩, 20) := ⟨⟨by decide +kernel, by decide +kernel⟩, List.mem_of_getElem? (i := 648) (by decide +kernel), List.mem_of_getElem? (i := 809) (by decide +kernel), List.mem_of_getElem? (i := 810) (by decide +kernel)⟩
theorem lw_p18 : lw_okq (⟨"TypingCoachModel", "takesOut", "()Z"⟩, 20) := ⟨⟨by decide +kernel, by decide +kernel⟩, List.mem_of_getElem? (i := 648) (by decide +kernel), List.mem_of_getElem? (i := 822) (by decide +kernel), List.mem_of_getElem? (i := 823) (by decide +kernel)⟩
theorem lw_p19 : lw_okq (⟨"TypingCoachModel", "letsIn", "()I"⟩, 20) := ⟨⟨by decide +kernel, by decide +kernel⟩, List.mem_of_getElem? (i := 648) (by decide +kernel), List.mem_of_getElem? (i := 826) (by decide +kernel), List.mem_of_getElem? (i := 827) (by decide +kernel)⟩
theorem lw_p20 : lw_okq (⟨"TypingCoachModel", "isGoodOne", "(I)Z"⟩, 20) := ⟨⟨by decide +kernel, by decide +kernel⟩, List.mem_of_getElem? (i := 648) (by decide +kernel), List.mem_of_getElem? (i := 830) (by decide +kernel), List.mem_of_getElem? (i := 831) (by decide +kernel)⟩
def lw_privs_2 : List (MethodName × Nat) := [(⟨"TypingCoachModel", "errorOf", "(I)I"⟩, 20), (⟨"TypingCoachModel", "speedNow", "()I"⟩, 20), (⟨"TypingCoachModel", "takesOut", "()Z"⟩, 20), (⟨"TypingCoachModel", "letsIn", "()I"⟩, 20), (⟨"TypingCoachModel", "isGoodOne", "(I)Z"⟩, 20)]
theorem lw_r2 : ∀ q ∈ lw_privs_2, lw_okq q := List.forall_mem_cons.mpr ⟨lw_p16, List.forall_mem_cons.mpr ⟨lw_p17, List.forall_mem_cons.mpr ⟨lw_p18, List.forall_mem_cons.mpr ⟨lw_p19, List.forall_mem_cons.mpr ⟨lw_p20, fun _ h => absurd h List.not_mem_nil⟩⟩⟩⟩⟩
def lw_privs : List (MethodName × Nat) := lw_privs_1 ++ (lw_privs_2)
def lw_tbl : List Cond := k2_sels lw_privs ++ tables_1
theorem lw_privs_ok : ∀ q ∈ lw_privs, lw_okq q := by
  show ∀ q ∈ lw_privs_1 ++ (lw_privs_2), lw_okq q
  exact List.forall_mem_append.mpr ⟨lw_r1, lw_r2⟩
end
section
/-! ===== BEGIN words of one list among another's, by their places ===== -/
theorem goodIn_r {big : List Cond} (ws : List Cond) (ps : List Nat) (hp : ws = ps.filterMap (fun i => big[i]?)) (h : ws.all goodWord = true) : GoodIn big ws := by
  intro w hw
  have h1 := List.all_eq_true.mp h w hw
  rw [hp] at hw
  obtain ⟨i, -, hi⟩ := List.mem_filterMap.mp hw
  have hm : w ∈ big := by first | exact List.mem_of_getElem? hi | exact List.getElem?_mem hi
  exact ⟨hm, good_of_word h1⟩
theorem goodIn_app {big a b : List Cond} (ha : GoodIn big a) (hb : GoodIn big b) : GoodIn big (a ++ b) := fun w h => (List.mem_append.mp h).elim (ha w) (hb w)
theorem goodIn_ca {big a b : List Cond} {c : Cond} (ha : GoodIn big (c :: a)) (hb : GoodIn big b) : GoodIn big (c :: (a ++ b)) := fun w h => (List.mem_cons.mp h).elim (fun e => ha w (List.mem_cons.mpr (Or.inl e))) (fun h => (List.mem_append.mp h).elim (fun h => ha w (List.mem_cons.mpr (Or.inr h))) (hb w))
theorem goodIn_sub {big ws : List Cond} (hm : ∀ w ∈ ws, w ∈ big) (h : ws.all goodWord = true) : GoodIn big ws := fun w hw => ⟨hm w hw, good_of_word (List.all_eq_true.mp h w hw)⟩
/-! ===== END ===== -/

/-! ===== BEGIN exceptions that leave a method, and their catching by the caller (launches without stack traces) ===== -/
section VXA
/-! The laws vx_back, vx_callV, vx_callS, vx_callSW, vx_throw0, vx_throwS follow proofs of the library, with one case more: JvmDerived/Free/Laws.lean (Back.of_free), Shelf42/LK1.lean (callV, callS), Shelf/KitTraced.lean (throwNew0V, throwNewS). -/
/-- where a method has thrown q: the class by its name, the cell, what was written, the world -/
def vx_T (XC : String → State → State → Prop) (st : State) (q : Addr) (t : State) (mc ms : Nat) (free : Addr → Prop) : Prop :=
  ∃ (E : String) (ce : Cell) (L : List Loc), XC E st t ∧ t.heap[q]? = some ce ∧ ce.vm = .none ∧ st.vm.findClass E = some ce.cls ∧ st.WarmedH t.vm ∧ st.sameButNew ({ t with vm := st.vm } : State) L mc ms ∧ ∀ z ∈ L, free z.base
def vx_Q (Qc : Array Value → State → Outcome → State → Prop) (XC : String → State → State → Prop) (mc ms : Nat) (free : Addr → Prop) : Array Value → State → Outcome → State → Prop := fun a st o t =>
  (Qc a st o t ∧ ∃ L, FrameEnd st o t L mc ms ∧ ∀ q ∈ L, free q.base) ∨ ∃ q, o = .threw q ∧ vx_T XC st q t mc ms free
/-- a callee that returns or throws -/
def vx_Met (l : Launch) (y : MethodName) (ws : List Cond) (rm : Room) (Pc : Array Value → State → Prop) (Qc : Array Value → State → Outcome → State → Prop) (XC : String → State → State → Prop) (mc ms : Nat) (free : Addr → Prop) : Prop :=
  MetFree l y (headSpec ws rm) Pc (fun _ _ _ _ _ => True) (vx_Q Qc XC mc ms free)
def vx_Post (XC : String → State → State → Prop) (mc ms : Nat) (free : Addr → Prop) : Pt → Array Value → Addr → Pt → Prop := fun A a q B =>
  ∃ (g : JFrame) (mk : MethodId) (t : State) (L : List Loc) (E : String) (ce : Cell), B.U.heap = t.heap ∧ B.U.vm = t.vm ∧ XC E (A.U.calling g mk a) t ∧ t.heap[q]? = some ce ∧ ce.vm = .none ∧ A.U.vm.findClass E = some ce.cls ∧ B.locs = A.locs ++ L ∧ (∀ z ∈ L, free z.base) ∧ B.cells = A.cells + mc ∧ B.slots = A.slots + ms
def vx_Back (l : Launch) (R : Room) (p : Program) (e : Env) (below : List Frame) (s : State) (sargs : Array Value) (y : MethodName) (len W9 : Nat)
    (Pre : Pt → Array Value → Prop) (Post : Pt → Array Value → Option Value → Pt → Prop) (PostX : Pt → Array Value → Addr → Pt → Prop) : Prop :=
  ∀ (m : MethodId) (meth : Method) (c : Code) (A : Pt) (g : JFrame) (ig : Instr) (mk : MethodId) (a : Array Value),
    Stand p l e R s m sargs below meth c A.U A.locs A.cells A.slots → g.method = m → g.locals.size = c.maxLocals → decode c.code g.pc = .ok (ig, len) →
    2 * g.monitorRoom + (g.stack.map fun v => v.category).sum ≤ W9 → A.U.methodNamed? y = some mk → Pre A a →
    (∃ (v : Option Value) (B : Pt), Stand p l e R s m sargs below meth c B.U B.locs B.cells B.slots ∧ Post A a v B ∧
      Steps p.tables e below (doInvoke e (A.U.setTop g) [] mk a).1 (B.U.setTop { g with pc := g.pc + len, stack := v.toList ++ g.stack })) ∨
    (∃ (q : Addr) (B : Pt), Stand p l e R s m sargs below meth c B.U B.locs B.cells B.slots ∧ PostX A a q B ∧
      Steps p.tables e below (doInvoke e (A.U.setTop g) [] mk a).1 ((B.U.setTop g).pushFrame (.throwing q)))
section Payer
variable {l : Launch} {R : Room} {p : Program} {e : Env} {below : List Frame} {s : State} {sargs : Array Value} {y : MethodName} {len W9 : Nat}
theorem vx_back {ws : List Cond} {rm : Room} {Pc : Array Value → State → Prop} {Qc : Array Value → State → Outcome → State → Prop} {XC : String → State → State → Prop} {mc ms : Nat} {free : Addr → Prop} {bytes : ByteArray} {maxL : Nat} {ret : Option FieldType}
    (hM : vx_Met l y ws rm Pc Qc XC mc ms free) (hblind : FrameBlind Pc) (hrc : rm.cells = mc) (hrs : rm.slots = ms)
    (hframes : rm.frames + 1 ≤ R.frames) (hlocals : W9 + (maxL + 11) + rm.locals ≤ R.locals)
    (hws : ∀ w ∈ ws, ∀ a' U, s.WarmedH U.vm → w.before a' U = true) (hcode : Cond.code y bytes maxL ret ∈ ws) (hinit : ∀ a' U, s.WarmedH U.vm → (Cond.initialized y.cls).before a' U = true) :
    vx_Back l R p e below s sargs y len W9 (PreOf R mc ms Pc) (PostOf Qc mc ms free) (vx_Post XC mc ms free) := by
  intro m meth c A g ig mk a X hg hsize hdg hW hn hp
  have h1 : (headSpec ws rm).pre.before a A.U = true := atoms_intro fun w hw => hws w hw _ _ X.warmed
  have h2 : (Cond.code y bytes maxL ret).before a A.U = true := hws _ hcode _ _ X.warmed
  have h3 : (Cond.initialized y.cls).before a A.U = true := hinit _ _ X.warmed
  have h4 : A.cells + (headSpec ws rm).room.cells ≤ R.cells := by rw [show (headSpec ws rm).room.cells = mc from hrc]; exact hp.1
  have h5 : A.slots + (headSpec ws rm).room.slots ≤ R.slots := by rw [show (headSpec ws rm).room.slots = ms from hrs]; exact hp.2.1
  have hPc : Pc a (A.U.calling g mk a) := hblind _ _ _ _ hp.2.2
  obtain ⟨U, Ls, c0, s0⟩ := A
  dsimp only [Pt.U, Pt.locs, Pt.cells, Pt.slots] at h1 h2 h3 h4 h5 X hn hPc ⊢
  obtain ⟨methY, cY, hmY, hcY, -, hlY, -, -, -, -⟩ := Cond.code_spec hn h2
  obtain ⟨kY, hkY, -⟩ := className_of_methodNamed hn
  have hinitY : kY.init = .initialized := Cond.initialized_spec (findClass_of_methodNamed hn) hkY h3
  have h : At U g.method c below := by rw [hg]; exact X.here
  have hlocals9 : W9 + (maxL + 11) + (headSpec ws rm).room.locals ≤ R.locals := hlocals
  have happ : (headSpec ws rm).appliesLoose y e.platform (U.calling g mk a) = true :=
    Spec.appliesLoose_calling (g := g) h hdg hn hkY hinitY
      (X.room_calling (g := g) (R' := (headSpec ws rm).room) hsize hmY hcY hframes (by rw [hlY]; omega) h4 h5) h1
  obtain ⟨mid, hmid⟩ := h.above
  have hfr : (U.setTop g).frames = (.java g :: mid) ++ below := by rw [State.frames_setTop' g h.top, hmid]; rfl
  obtain ⟨o, s₂, hsteps, -, hend, hq⟩ := Steps.callFree hM p X.admits X.cas X.clock (acts := []) hfr happ hPc trivial
  have hq' : vx_Q Qc XC mc ms free a (U.calling g mk a) o s₂ := hq
  rw [State.frames_setTop' g h.top] at hend
  obtain ⟨g₀, hg0⟩ := Option.isSome_iff_exists.mp h.top
  obtain ⟨r, hr⟩ := State.topJava?_eq_some.mp hg0
  have hr' : (({ U with heap := s₂.heap, slotsUsed := s₂.slotsUsed } : State).setVm s₂.vm).frames = .java g₀ :: r := hr
  rcases hq' with ⟨hqc, L, hfe, hL⟩ | ⟨q, rfl, E, ce, L, hx, hce, hcv, hcl, hW₂, hsm, hL⟩
  · obtain ⟨⟨v, rfl⟩, hW₂, e2, q2, q3, q4, q5, q6⟩ := id hfe
    have e3 : s₂ = ({ (U.calling g mk a).setFrames s₂.frames with heap := s₂.heap, slotsUsed := s₂.slotsUsed } : State).setVm s₂.vm := by
      have : s₂ = ({ s₂ with vm := (U.calling g mk a).vm } : State).setVm s₂.vm := rfl
      rw [e2] at this
      exact this
    obtain ⟨c₂, i₂, len₂, hc₂, hd₂, hf₂⟩ := hend
    have hW' : U.WarmedH s₂.vm := hW₂
    have hcc : c₂ = c := by
      have h1 : s₂.code? g.method = U.code? g.method := by
        rw [State.code?_eq, State.code?_eq, hW'.alike.method?]
      exact Option.some.inj (hc₂.symm.trans (h1.trans h.code))
    subst hcc
    have hlen : len₂ = len := by rw [hdg] at hd₂; cases hd₂; rfl
    subst hlen
    have hs₂ : s₂ = (({ U with heap := s₂.heap, slotsUsed := s₂.slotsUsed } : State).setVm s₂.vm).setTop { g with pc := g.pc + len₂, stack := v.toList ++ g.stack } := by
      refine e3.trans ?_
      rw [hf₂, State.calling_eq h.top, State.setFrames_setFrames, State.setTop_of_frames _ hr', hr]
      rfl
    have hsame : U.sameButNew ({ U with heap := s₂.heap, slotsUsed := s₂.slotsUsed } : State) L mc ms := by
      refine ⟨?_, q2, q3, q4, q5, q6⟩
      obtain ⟨t, ht, -⟩ := State.frames_cons hr
      show ({ U with heap := s₂.heap, slotsUsed := s₂.slotsUsed } : State) = { U.setFrames U.frames with heap := s₂.heap, slotsUsed := s₂.slotsUsed }
      rw [State.setFrames_self ht]
    subst hg
    refine Or.inl ⟨v, ⟨(({ U with heap := s₂.heap, slotsUsed := s₂.slotsUsed } : State).setVm s₂.vm), Ls ++ L, c0 + mc, s0 + ms⟩,
      ⟨X.admits, X.cas, X.clock, X.frames, X.room, X.hears, X.method, X.code, (X.here.setHeapUsed s₂.heap s₂.slotsUsed).setVm hW'.alike, X.tail, State.WarmedH.trans X.warmed hW', X.limits, X.bytes, X.same.trans (hsame.setVm s.vm)⟩,
      ⟨g, mk, s₂, L, rfl, rfl, hqc, rfl, hL, rfl, rfl⟩, ?_⟩
    show Steps p.tables e below _ ((({ U with heap := s₂.heap, slotsUsed := s₂.slotsUsed } : State).setVm s₂.vm).setTop { g with pc := g.pc + len₂, stack := v.toList ++ g.stack })
    rw [← hs₂]
    exact hsteps
  · obtain ⟨e2, q2, q3, q4, q5, q6⟩ := id hsm
    have e3 : s₂ = ({ (U.calling g mk a).setFrames s₂.frames with heap := s₂.heap, slotsUsed := s₂.slotsUsed } : State).setVm s₂.vm := by
      have : s₂ = ({ s₂ with vm := (U.calling g mk a).vm } : State).setVm s₂.vm := rfl
      rw [e2] at this
      exact this
    have hf₂ : s₂.frames = .throwing q :: .java g :: U.frames.tail := hend
    have hW' : U.WarmedH s₂.vm := hW₂
    have hs₂ : s₂ = ((({ U with heap := s₂.heap, slotsUsed := s₂.slotsUsed } : State).setVm s₂.vm).setTop g).pushFrame (.throwing q) := by
      refine e3.trans ?_
      rw [hf₂, State.calling_eq h.top, State.setFrames_setFrames, State.pushFrame, State.frames_setTop _ hr', State.setTop_of_frames _ hr', State.setFrames_setFrames, hr]
      rfl
    have hsame : U.sameButNew ({ U with heap := s₂.heap, slotsUsed := s₂.slotsUsed } : State) L mc ms := by
      refine ⟨?_, q2, q3, q4, q5, q6⟩
      obtain ⟨t, ht, -⟩ := State.frames_cons hr
      show ({ U with heap := s₂.heap, slotsUsed := s₂.slotsUsed } : State) = { U.setFrames U.frames with heap := s₂.heap, slotsUsed := s₂.slotsUsed }
      rw [State.setFrames_self ht]
    subst hg
    refine Or.inr ⟨q, ⟨(({ U with heap := s₂.heap, slotsUsed := s₂.slotsUsed } : State).setVm s₂.vm), Ls ++ L, c0 + mc, s0 + ms⟩,
      ⟨X.admits, X.cas, X.clock, X.frames, X.room, X.hears, X.method, X.code, (X.here.setHeapUsed s₂.heap s₂.slotsUsed).setVm hW'.alike, X.tail, State.WarmedH.trans X.warmed hW', X.limits, X.bytes, X.same.trans (hsame.setVm s.vm)⟩,
      ⟨g, mk, s₂, L, E, ce, rfl, rfl, hx, hce, hcv, hcl, rfl, hL, rfl, rfl⟩, ?_⟩
    show Steps p.tables e below _ (((({ U with heap := s₂.heap, slotsUsed := s₂.slotsUsed } : State).setVm s₂.vm).setTop g).pushFrame (.throwing q))
    rw [← hs₂]
    exact hsteps
end Payer
section Calls
variable {p : Program} {l : Launch} {e : Env} {R : Room} {s : State} {m : MethodId} {args : Array Value} {below : List Frame} {meth : Method} {c : Code} {T : State} {locs : List Loc} {cells slots : Nat}
theorem vx_callV (X : Stand p l e R s m args below meth c T locs cells slots) (hexec : p.tables.exec = Jvm.exec) {own C : String} {index : Nat} {y : MethodName} {bytes : ByteArray} {maxL : Nat} {ret : Option FieldType}
    (hown : s.vm.findClass own = some m.cls) (hlink : (Cond.methodLink own index y).before args s = true) (hinst : (Cond.instanceMethod y).before args s = true) (hsel : (Cond.selects C y y).before args s = true)
    (hcode : (Cond.code y bytes maxL ret).before args s = true) (hy : y.cls ≠ "java/lang/invoke/MethodHandle" ∧ y.cls ≠ "java/lang/invoke/VarHandle")
    {W9 : Nat} {Pre : Pt → Array Value → Prop} {Post : Pt → Array Value → Option Value → Pt → Prop} {PostX : Pt → Array Value → Addr → Pt → Prop} (hK : vx_Back l R p e below s args y 3 W9 Pre Post PostX)
    {b : Addr} {cellB : Cell} (hcell : T.heap[b]? = some cellB) (hobj : cellB.vm.isStatics = false) (hcls : s.vm.findClass C = some cellB.cls)
    {g : JFrame} (hg : g.method = m) (hsize : g.locals.size = c.maxLocals) {argsL rest : List Value} (hlen : ∀ sig, parseMethodDescriptor y.desc = some sig → argsL.length = sig.parameters.length)
    (hstack : g.stack = argsL.reverse ++ .ref b :: rest) (hW : 2 * g.monitorRoom + (rest.map fun v => v.category).sum ≤ W9) (hdg : decode c.code g.pc = .ok (.invokevirtual index, 3))
    (hpre : ∀ vm₁, s.WarmedH vm₁ → Pre ⟨T.setVm vm₁, locs, cells, slots⟩ (Value.ref b :: argsL).toArray) :
    (∃ (v : Option Value) (vm₁ : Vm) (B : Pt), s.WarmedH vm₁ ∧ Stand p l e R s m args below meth c B.U B.locs B.cells B.slots ∧ Post ⟨T.setVm vm₁, locs, cells, slots⟩ (Value.ref b :: argsL).toArray v B ∧
      ∀ target, Steps p.tables e below (B.U.setTop { g with pc := g.pc + 3, stack := v.toList ++ rest }) target → Steps p.tables e below (T.setTop g) target) ∨
    (∃ (q : Addr) (vm₁ : Vm) (B : Pt), s.WarmedH vm₁ ∧ Stand p l e R s m args below meth c B.U B.locs B.cells B.slots ∧ PostX ⟨T.setVm vm₁, locs, cells, slots⟩ (Value.ref b :: argsL).toArray q B ∧
      Steps p.tables e below (T.setTop g) ((B.U.setTop { g with stack := rest }).pushFrame (.throwing q))) := by
  obtain ⟨mk, methM, hnamed, hmethM, hstM, habM⟩ := Cond.instanceMethod_spec hinst
  obtain ⟨methM', cM, hmethM', -, -, -, -, -, -, hsigM⟩ := Cond.code_spec hnamed hcode
  cases hmethM.symm.trans hmethM'
  obtain ⟨c2, r2, m2, q1, q2, q3, q4, kP, hkP, hkPi⟩ := Cond.selects_spec hsel
  cases hcls.symm.trans q1
  cases (State.methodFound?_of_named hnamed hy).symm.trans q2
  cases hnamed.symm.trans q3
  have hselP : selectMethod e.platform s.vm cellB.cls mk = .method mk := by rw [Launch.admits_selectMethod X.admits]; exact q4
  obtain ⟨vm₁, X₁, hstep₁⟩ := X.invokevirtual hexec hown hlink hnamed hmethM hstM hkP hkPi hy (a := b) (cell := cellB) hcell
    (fun z h => by rw [h] at hobj; cases hobj) hselP hmethM habM hkP hkPi (g := g) hg (argsL := argsL) (rest := rest) (hlen _ hsigM) hstack hdg
  rcases hK m meth c ⟨T.setVm vm₁, locs, cells, slots⟩ { g with stack := rest } (.invokevirtual index) mk (Value.ref b :: argsL).toArray X₁ hg hsize hdg hW (X₁.named hnamed) (hpre vm₁ X₁.warmed) with ⟨v, B, X', hpost, hsteps⟩ | ⟨q, B, X', hpost, hsteps⟩
  · exact Or.inl ⟨v, vm₁, B, X₁.warmed, X', hpost, fun target h => hstep₁ _ fun acts => by rw [doInvoke_state]; exact hsteps.trans h⟩
  · exact Or.inr ⟨q, vm₁, B, X₁.warmed, X', hpost, hstep₁ _ fun acts => by rw [doInvoke_state]; exact hsteps⟩
theorem vx_callS (X : Stand p l e R s m args below meth c T locs cells slots) (hexec : p.tables.exec = Jvm.exec) {own : String} {index : Nat} {y : MethodName} {bytes : ByteArray} {maxL : Nat} {ret : Option FieldType}
    (hown : s.vm.findClass own = some m.cls) (hlink : (Cond.methodLink own index y).before args s = true) (hstat : (Cond.static y).before args s = true) (hinit : (Cond.initialized y.cls).before args s = true)
    (hcode : (Cond.code y bytes maxL ret).before args s = true) (hy : y.cls ≠ "java/lang/invoke/MethodHandle" ∧ y.cls ≠ "java/lang/invoke/VarHandle")
    {W9 : Nat} {Pre : Pt → Array Value → Prop} {Post : Pt → Array Value → Option Value → Pt → Prop} {PostX : Pt → Array Value → Addr → Pt → Prop} (hK : vx_Back l R p e below s args y 3 W9 Pre Post PostX)
    {g : JFrame} (hg : g.method = m) (hsize : g.locals.size = c.maxLocals) {argsL rest : List Value} (hlen : ∀ sig, parseMethodDescriptor y.desc = some sig → argsL.length = sig.parameters.length)
    (hstack : g.stack = argsL.reverse ++ rest) (hW : 2 * g.monitorRoom + (rest.map fun v => v.category).sum ≤ W9) (hdg : decode c.code g.pc = .ok (.invokestatic index, 3))
    (hpre : ∀ vm₁, s.WarmedH vm₁ → Pre ⟨T.setVm vm₁, locs, cells, slots⟩ argsL.toArray) :
    (∃ (v : Option Value) (vm₁ : Vm) (B : Pt), s.WarmedH vm₁ ∧ Stand p l e R s m args below meth c B.U B.locs B.cells B.slots ∧ Post ⟨T.setVm vm₁, locs, cells, slots⟩ argsL.toArray v B ∧
      ∀ target, Steps p.tables e below (B.U.setTop { g with pc := g.pc + 3, stack := v.toList ++ rest }) target → Steps p.tables e below (T.setTop g) target) ∨
    (∃ (q : Addr) (vm₁ : Vm) (B : Pt), s.WarmedH vm₁ ∧ Stand p l e R s m args below meth c B.U B.locs B.cells B.slots ∧ PostX ⟨T.setVm vm₁, locs, cells, slots⟩ argsL.toArray q B ∧
      Steps p.tables e below (T.setTop g) ((B.U.setTop { g with stack := rest }).pushFrame (.throwing q))) := by
  obtain ⟨mk, hnamed⟩ := Cond.code_named hcode
  obtain ⟨methM, cM, hmethM, -, -, -, -, -, -, hsigM⟩ := Cond.code_spec hnamed hcode
  have hstatic : methM.isStatic = true := Cond.static_spec hnamed hmethM hstat
  obtain ⟨kP, hkP, -⟩ := className_of_methodNamed hnamed
  have hinitP : kP.init = .initialized := Cond.initialized_spec (findClass_of_methodNamed hnamed) hkP hinit
  obtain ⟨vm₁, X₁, hstep₁⟩ := X.invokestatic hexec hown hlink hnamed hmethM hstatic hkP hinitP hy (g := g) hg (argsL := argsL) (rest := rest) (hlen _ hsigM) hstack hdg
  rcases hK m meth c ⟨T.setVm vm₁, locs, cells, slots⟩ { g with stack := rest } (.invokestatic index) mk argsL.toArray X₁ hg hsize hdg hW (X₁.named hnamed) (hpre vm₁ X₁.warmed) with ⟨v, B, X', hpost, hsteps⟩ | ⟨q, B, X', hpost, hsteps⟩
  · exact Or.inl ⟨v, vm₁, B, X₁.warmed, X', hpost, fun target h => hstep₁ _ fun acts => by rw [doInvoke_state]; exact hsteps.trans h⟩
  · exact Or.inr ⟨q, vm₁, B, X₁.warmed, X', hpost, hstep₁ _ fun acts => by rw [doInvoke_state]; exact hsteps⟩
end Calls
theorem vx_cls {s : State} {T : State} {vm₁ : Vm} {E : String} {k : ClassId} (hW : s.WarmedH vm₁) (h : (T.setVm vm₁).vm.findClass E = some k) : s.vm.findClass E = some k := by
  have h1 : vm₁.findClass E = some k := h
  rw [hW.alike.findClass] at h1
  exact h1
/-- the method's frame g, with q thrown over it -/
def vx_W (p : Program) (l : Launch) (e : Env) (R : Room) (s : State) (m : MethodId) (args : Array Value) (below : List Frame) (meth : Method) (c : Code) (H : Heap) (locs : List Loc) (cells slots : Nat) (Q : State → Prop) (g : JFrame) (q : Addr) : Prop :=
  ∀ T : State, T.heap = H → Stand p l e R s m args below meth c T locs cells slots → ∃ t, Steps p.tables e below ((T.setTop g).pushFrame (.throwing q)) t ∧ Q t
def vx_Run (p : Program) (l : Launch) (e : Env) (R : Room) (s : State) (m : MethodId) (args : Array Value) (below : List Frame) (meth : Method) (c : Code) (H : Heap) (locs : List Loc) (cells slots mc ms : Nat) (g : JFrame) (rest : List Value) (Qa : State → Outcome → State → Prop) (XC : String → State → State → Prop) (free : Addr → Prop) : Prop :=
  ∀ T : State, T.heap = H → Stand p l e R s m args below meth c T locs cells slots →
    (∃ (v : Option Value) (st₀ t T' : State) (L : List Loc), st₀.heap = H ∧ Stand p l e R s m args below meth c T' (locs ++ L) (cells + mc) (slots + ms) ∧ (∀ q ∈ L, free q.base) ∧ T'.heap = t.heap ∧ T'.vm = t.vm ∧ Qa st₀ (.returned v) t ∧
      Goes p e below T g T' { g with pc := g.pc + 3, stack := v.toList ++ rest }) ∨
    (∃ (q : Addr) (st₀ t T' : State) (L : List Loc) (E : String) (ce : Cell), st₀.heap = H ∧ Stand p l e R s m args below meth c T' (locs ++ L) (cells + mc) (slots + ms) ∧ (∀ z ∈ L, free z.base) ∧ T'.heap = t.heap ∧ T'.vm = t.vm ∧ XC E st₀ t ∧ t.heap[q]? = some ce ∧ ce.vm = .none ∧ s.vm.findClass E = some ce.cls ∧
      Steps p.tables e below (T.setTop g) ((T'.setTop { g with stack := rest }).pushFrame (.throwing q)))
def vx_X {S : Type} (px : S → Prop) (B : String → S → State → Prop) (A : Nat → Prop) : String → State → State → Prop := fun E st t => ∃ u : S, px u ∧ B E u t ∧ va_F A st t
section Runs
variable {p : Program} {l : Launch} {e : Env} {R : Room} {s : State} {m : MethodId} {args : Array Value} {below : List Frame} {meth : Method} {c : Code} {H : Heap} {locs : List Loc} {cells slots : Nat}
variable {y : MethodName} {bytes cc : ByteArray} {maxL nL mc ms n index : Nat} {ret : Option FieldType} {ws : List Cond} {rm : Room} {Pc : Array Value → State → Prop} {Qc : Array Value → State → Outcome → State → Prop} {XC : String → State → State → Prop} {free : Addr → Prop} {Ts : List Cond} {own C : String} {b : Addr} {As rest : List Value} {g : JFrame}
theorem vx_callBack (cb : CallB R s args own index y bytes maxL ret ws rm mc ms n) (hM : vx_Met l y ws rm Pc Qc XC mc ms free) (hbl : FrameBlind Pc) : vx_Back l R p e below s args y 3 8 (PreOf R mc ms Pc) (PostOf Qc mc ms free) (vx_Post XC mc ms free) := by
  obtain ⟨hrc, hrs, hfr, hlo, hws, hcw, -, hini, -⟩ := cb
  exact vx_back (bytes := bytes) (maxL := maxL) (ret := ret) hM hbl hrc hrs hfr hlo hws hcw (fun a' U hW => word_at hW (Or.inl (by first | rfl | simp [Cond.onTables, Cond.keeps, Cond.steady])) hini)
theorem vx_runV (S : CallFix p m c cc nL s args Ts own) (hM : vx_Met l y ws rm Pc Qc XC mc ms free) (cw : CallW R s args own C index y bytes maxL ret ws rm mc ms n) (hp : PreV s H C b Pc As)
    (hg : g.method = m) (hn : As.length = n) (hsize : g.locals.size = nL) (hstack : g.stack = As.reverse ++ .ref b :: rest) (hW : 2 * g.monitorRoom + (rest.map fun v => v.category).sum ≤ 8) (hdg : decode cc g.pc = .ok (.invokevirtual index, 3)) (hf : cells + mc ≤ R.cells ∧ slots + ms ≤ R.slots) :
    vx_Run p l e R s m args below meth c H locs cells slots mc ms g rest (Qc (Value.ref b :: As).toArray) XC free := by
  have hK : vx_Back l R p e below s args y 3 8 (PreOf R mc ms Pc) (PostOf Qc mc ms free) (vx_Post XC mc ms free) := vx_callBack cw.1 hM hp.1
  obtain ⟨⟨-, -, -, -, -, -, hcode, -, hy, hlen, hl⟩, hin, hse⟩ := cw
  obtain ⟨hx, hb, hml, ho, -⟩ := S
  obtain ⟨-, ⟨cellB, hcB, hoB, hclB⟩, hPc⟩ := hp
  intro T hT X
  rcases vx_callV X hx (C := C) (bytes := bytes) (maxL := maxL) (ret := ret) ho hl hin hse hcode hy hK (by rw [hT]; exact hcB) hoB hclB hg (hsize.trans hml.symm) (argsL := As) (rest := rest) (fun sig h => hn.trans (hlen sig h)) hstack hW (by rw [hb]; exact hdg)
    (fun vm₁ hW₁ => ⟨hf.1, hf.2, hPc (T.setVm vm₁) hT hW₁⟩) with ⟨v, vm₁, ⟨U', l2, c2, s2⟩, hW₁, X', ⟨g', mk, t, L, e1, e2, hq, h1, hL, h2, h3⟩, st⟩ | ⟨q, vm₁, ⟨U', l2, c2, s2⟩, hW₁, X', ⟨g', mk, t, L, E, ce, e1, e2, hq, hce, hcv, hcl, h1, hL, h2, h3⟩, st⟩
  · dsimp only [Pt.U, Pt.locs, Pt.cells, Pt.slots] at X' e1 e2 h1 h2 h3 st
    subst h1; subst h2; subst h3
    exact Or.inl ⟨v, (T.setVm vm₁).calling g' mk (Value.ref b :: As).toArray, t, U', L, hT, X', hL, e1, e2, hq, st⟩
  · dsimp only [Pt.U, Pt.locs, Pt.cells, Pt.slots] at X' e1 e2 h1 h2 h3 st hcl
    subst h1; subst h2; subst h3
    exact Or.inr ⟨q, (T.setVm vm₁).calling g' mk (Value.ref b :: As).toArray, t, U', L, E, ce, hT, X', hL, e1, e2, hq, hce, hcv, vx_cls hW₁ hcl, st⟩
theorem vx_runS (S : CallFix p m c cc nL s args Ts own) (hM : vx_Met l y ws rm Pc Qc XC mc ms free) (cw : CallB R s args own index y bytes maxL ret ws rm mc ms n ∧ (Cond.static y).before args s = true) (hp : PreS s H Pc As)
    (hg : g.method = m) (hn : As.length = n) (hsize : g.locals.size = nL) (hstack : g.stack = As.reverse ++ rest) (hW : 2 * g.monitorRoom + (rest.map fun v => v.category).sum ≤ 8) (hdg : decode cc g.pc = .ok (.invokestatic index, 3)) (hf : cells + mc ≤ R.cells ∧ slots + ms ≤ R.slots) :
    vx_Run p l e R s m args below meth c H locs cells slots mc ms g rest (Qc As.toArray) XC free := by
  have hK : vx_Back l R p e below s args y 3 8 (PreOf R mc ms Pc) (PostOf Qc mc ms free) (vx_Post XC mc ms free) := vx_callBack cw.1 hM hp.1
  obtain ⟨⟨-, -, -, -, -, -, hcode, hini, hy, hlen, hl⟩, hstt⟩ := cw
  obtain ⟨hx, hb, hml, ho, -⟩ := S
  intro T hT X
  rcases vx_callS X hx (bytes := bytes) (maxL := maxL) (ret := ret) ho hl hstt hini hcode hy hK hg (hsize.trans hml.symm) (argsL := As) (rest := rest) (fun sig h => hn.trans (hlen sig h)) hstack hW (by rw [hb]; exact hdg)
    (fun vm₁ hW₁ => ⟨hf.1, hf.2, hp.2 (T.setVm vm₁) hT hW₁⟩) with ⟨v, vm₁, ⟨U', l2, c2, s2⟩, hW₁, X', ⟨g', mk, t, L, e1, e2, hq, h1, hL, h2, h3⟩, st⟩ | ⟨q, vm₁, ⟨U', l2, c2, s2⟩, hW₁, X', ⟨g', mk, t, L, E, ce, e1, e2, hq, hce, hcv, hcl, h1, hL, h2, h3⟩, st⟩
  · dsimp only [Pt.U, Pt.locs, Pt.cells, Pt.slots] at X' e1 e2 h1 h2 h3 st
    subst h1; subst h2; subst h3
    exact Or.inl ⟨v, (T.setVm vm₁).calling g' mk As.toArray, t, U', L, hT, X', hL, e1, e2, hq, st⟩
  · dsimp only [Pt.U, Pt.locs, Pt.cells, Pt.slots] at X' e1 e2 h1 h2 h3 st hcl
    subst h1; subst h2; subst h3
    exact Or.inr ⟨q, (T.setVm vm₁).calling g' mk As.toArray, t, U', L, E, ce, hT, X', hL, e1, e2, hq, hce, hcv, vx_cls hW₁ hcl, st⟩
end Runs
section Rows
variable {p : Program} {l : Launch} {e : Env} {R : Room} {s : State} {m : MethodId} {args : Array Value} {below : List Frame} {meth : Method} {c : Code} {H : Heap} {locs : List Loc} {cells slots : Nat} {Q : State → Prop}
variable {mc ms : Nat} {free : Addr → Prop} {A0 A1 : Nat → Prop} {H0 : Heap} {a : Array Value} {pc : Nat} {ls : Array Slot} {st0 rest : List Value}
theorem vx_keep {st₀ t T' : State} {L : List Loc} (h0 : st₀.heap = H) (e1 : T'.heap = t.heap) (hS : va_S A0 H0 H locs) (hA : ∀ q, q < H.size → A1 q → A0 q) (hf : ∀ q, free q → A0 q) (hL : ∀ q ∈ L, free q.base) (hF : va_F A1 st₀ t) :
    H.size ≤ T'.heap.size ∧ (∀ q : Nat, q < H.size → ¬ A1 q → T'.heap[q]? = H[q]?) ∧ va_S A0 H0 T'.heap (locs ++ L) := by
  obtain ⟨hz, hk⟩ := hF
  rw [h0] at hz hk
  exact ⟨by rw [e1]; exact hz, fun q h1 h2 => by rw [e1]; exact hk q h1 h2,
    ⟨Nat.le_trans hS.1 (by rw [e1]; exact hz), fun q h1 h2 => by rw [e1, hk q (Nat.lt_of_lt_of_le h1 hS.1) (fun z => h2 (hA q (Nat.lt_of_lt_of_le h1 hS.1) z))]; exact hS.2.1 q h1 h2, fun q hq => by
      rcases List.mem_append.mp hq with h | h
      · exact hS.2.2 q h
      · exact hf _ (hL q h)⟩⟩
theorem vx_calli {S SX : Type} {post : Int32 → S → Prop} {px : SX → Prop} {B : S → State → Prop} {BX : String → SX → State → Prop} {AX : Nat → Prop} (hr : vx_Run p l e R s m args below meth c H locs cells slots mc ms (F0 m pc ls st0) rest (va_Qi post B A1 a) (vx_X px BX AX) free) (hS : va_S A0 H0 H locs) (hA : ∀ q, q < H.size → A1 q → A0 q) (hf : ∀ q, free q → A0 q) (hAX : ∀ q, q < H.size → AX q → A0 q)
    (kx : ∀ (E : String) (ce : Cell) (q9 : Addr) (u : SX) (t : State) (H1 : Heap) (locs1 : List Loc), t.heap = H1 → s.vm.Alike t.vm → px u → BX E u t → H.size ≤ H1.size → (∀ q : Nat, q < H.size → ¬ AX q → H1[q]? = H[q]?) → va_S A0 H0 H1 locs1 → H1[q9]? = some ce → ce.vm = .none → s.vm.findClass E = some ce.cls → vx_W p l e R s m args below meth c H1 locs1 (cells + mc) (slots + ms) Q (F0 m pc ls rest) q9)
    (kk : ∀ (r : Int32) (u : S) (t : State) (H1 : Heap) (locs1 : List Loc), t.heap = H1 → s.vm.Alike t.vm → post r u → B u t → H.size ≤ H1.size → (∀ q : Nat, q < H.size → ¬ A1 q → H1[q]? = H[q]?) → va_S A0 H0 H1 locs1 → W p l e R s m args below meth c H1 locs1 (cells + mc) (slots + ms) Q (F0 m (pc + 3) ls (.int r :: rest))) : W p l e R s m args below meth c H locs cells slots Q (F0 m pc ls st0) := by
  intro T hT X
  rcases hr T hT X with ⟨v, st₀, t, T', L, h0, X', hL, e1, e2, ⟨⟨r, u, hv, hp, hb⟩, hF⟩, st⟩ | ⟨q, st₀, t, T', L, E, ce, h0, X', hL, e1, e2, ⟨u, hp, hb, hF⟩, hce, hcv, hcl, st⟩
  · cases hv
    obtain ⟨k1, k2, k3⟩ := vx_keep h0 e1 hS hA hf hL hF
    obtain ⟨t2, a1, b1⟩ := kk r u t T'.heap (locs ++ L) e1.symm (by rw [← e2]; exact X'.warmed.alike) hp hb k1 k2 k3 T' rfl X'
    exact ⟨t2, st t2 a1, b1⟩
  · obtain ⟨k1, k2, k3⟩ := vx_keep h0 e1 hS hAX hf hL hF
    obtain ⟨t2, a1, b1⟩ := kx E ce q u t T'.heap (locs ++ L) e1.symm (by rw [← e2]; exact X'.warmed.alike) hp hb k1 k2 k3 (by rw [e1]; exact hce) hcv hcl T' rfl X'
    exact ⟨t2, st.trans a1, b1⟩
theorem vx_calll {S SX : Type} {post : Int64 → S → Prop} {px : SX → Prop} {B : S → State → Prop} {BX : String → SX → State → Prop} {AX : Nat → Prop} (hr : vx_Run p l e R s m args below meth c H locs cells slots mc ms (F0 m pc ls st0) rest (va_Ql post B A1 a) (vx_X px BX AX) free) (hS : va_S A0 H0 H locs) (hA : ∀ q, q < H.size → A1 q → A0 q) (hf : ∀ q, free q → A0 q) (hAX : ∀ q, q < H.size → AX q → A0 q)
    (kx : ∀ (E : String) (ce : Cell) (q9 : Addr) (u : SX) (t : State) (H1 : Heap) (locs1 : List Loc), t.heap = H1 → s.vm.Alike t.vm → px u → BX E u t → H.size ≤ H1.size → (∀ q : Nat, q < H.size → ¬ AX q → H1[q]? = H[q]?) → va_S A0 H0 H1 locs1 → H1[q9]? = some ce → ce.vm = .none → s.vm.findClass E = some ce.cls → vx_W p l e R s m args below meth c H1 locs1 (cells + mc) (slots + ms) Q (F0 m pc ls rest) q9)
    (kk : ∀ (r : Int64) (u : S) (t : State) (H1 : Heap) (locs1 : List Loc), t.heap = H1 → s.vm.Alike t.vm → post r u → B u t → H.size ≤ H1.size → (∀ q : Nat, q < H.size → ¬ A1 q → H1[q]? = H[q]?) → va_S A0 H0 H1 locs1 → W p l e R s m args below meth c H1 locs1 (cells + mc) (slots + ms) Q (F0 m (pc + 3) ls (.long r :: rest))) : W p l e R s m args below meth c H locs cells slots Q (F0 m pc ls st0) := by
  intro T hT X
  rcases hr T hT X with ⟨v, st₀, t, T', L, h0, X', hL, e1, e2, ⟨⟨r, u, hv, hp, hb⟩, hF⟩, st⟩ | ⟨q, st₀, t, T', L, E, ce, h0, X', hL, e1, e2, ⟨u, hp, hb, hF⟩, hce, hcv, hcl, st⟩
  · cases hv
    obtain ⟨k1, k2, k3⟩ := vx_keep h0 e1 hS hA hf hL hF
    obtain ⟨t2, a1, b1⟩ := kk r u t T'.heap (locs ++ L) e1.symm (by rw [← e2]; exact X'.warmed.alike) hp hb k1 k2 k3 T' rfl X'
    exact ⟨t2, st t2 a1, b1⟩
  · obtain ⟨k1, k2, k3⟩ := vx_keep h0 e1 hS hAX hf hL hF
    obtain ⟨t2, a1, b1⟩ := kx E ce q u t T'.heap (locs ++ L) e1.symm (by rw [← e2]; exact X'.warmed.alike) hp hb k1 k2 k3 (by rw [e1]; exact hce) hcv hcl T' rfl X'
    exact ⟨t2, st.trans a1, b1⟩
theorem vx_callf {S SX : Type} {post : UInt32 → S → Prop} {px : SX → Prop} {B : S → State → Prop} {BX : String → SX → State → Prop} {AX : Nat → Prop} (hr : vx_Run p l e R s m args below meth c H locs cells slots mc ms (F0 m pc ls st0) rest (va_Qf post B A1 a) (vx_X px BX AX) free) (hS : va_S A0 H0 H locs) (hA : ∀ q, q < H.size → A1 q → A0 q) (hf : ∀ q, free q → A0 q) (hAX : ∀ q, q < H.size → AX q → A0 q)
    (kx : ∀ (E : String) (ce : Cell) (q9 : Addr) (u : SX) (t : State) (H1 : Heap) (locs1 : List Loc), t.heap = H1 → s.vm.Alike t.vm → px u → BX E u t → H.size ≤ H1.size → (∀ q : Nat, q < H.size → ¬ AX q → H1[q]? = H[q]?) → va_S A0 H0 H1 locs1 → H1[q9]? = some ce → ce.vm = .none → s.vm.findClass E = some ce.cls → vx_W p l e R s m args below meth c H1 locs1 (cells + mc) (slots + ms) Q (F0 m pc ls rest) q9)
    (kk : ∀ (r : UInt32) (u : S) (t : State) (H1 : Heap) (locs1 : List Loc), t.heap = H1 → s.vm.Alike t.vm → post r u → B u t → H.size ≤ H1.size → (∀ q : Nat, q < H.size → ¬ A1 q → H1[q]? = H[q]?) → va_S A0 H0 H1 locs1 → W p l e R s m args below meth c H1 locs1 (cells + mc) (slots + ms) Q (F0 m (pc + 3) ls (.float r :: rest))) : W p l e R s m args below meth c H locs cells slots Q (F0 m pc ls st0) := by
  intro T hT X
  rcases hr T hT X with ⟨v, st₀, t, T', L, h0, X', hL, e1, e2, ⟨⟨r, u, hv, hp, hb⟩, hF⟩, st⟩ | ⟨q, st₀, t, T', L, E, ce, h0, X', hL, e1, e2, ⟨u, hp, hb, hF⟩, hce, hcv, hcl, st⟩
  · cases hv
    obtain ⟨k1, k2, k3⟩ := vx_keep h0 e1 hS hA hf hL hF
    obtain ⟨t2, a1, b1⟩ := kk r u t T'.heap (locs ++ L) e1.symm (by rw [← e2]; exact X'.warmed.alike) hp hb k1 k2 k3 T' rfl X'
    exact ⟨t2, st t2 a1, b1⟩
  · obtain ⟨k1, k2, k3⟩ := vx_keep h0 e1 hS hAX hf hL hF
    obtain ⟨t2, a1, b1⟩ := kx E ce q u t T'.heap (locs ++ L) e1.symm (by rw [← e2]; exact X'.warmed.alike) hp hb k1 k2 k3 (by rw [e1]; exact hce) hcv hcl T' rfl X'
    exact ⟨t2, st.trans a1, b1⟩
theorem vx_calld {S SX : Type} {post : UInt64 → S → Prop} {px : SX → Prop} {B : S → State → Prop} {BX : String → SX → State → Prop} {AX : Nat → Prop} (hr : vx_Run p l e R s m args below meth c H locs cells slots mc ms (F0 m pc ls st0) rest (va_Qd post B A1 a) (vx_X px BX AX) free) (hS : va_S A0 H0 H locs) (hA : ∀ q, q < H.size → A1 q → A0 q) (hf : ∀ q, free q → A0 q) (hAX : ∀ q, q < H.size → AX q → A0 q)
    (kx : ∀ (E : String) (ce : Cell) (q9 : Addr) (u : SX) (t : State) (H1 : Heap) (locs1 : List Loc), t.heap = H1 → s.vm.Alike t.vm → px u → BX E u t → H.size ≤ H1.size → (∀ q : Nat, q < H.size → ¬ AX q → H1[q]? = H[q]?) → va_S A0 H0 H1 locs1 → H1[q9]? = some ce → ce.vm = .none → s.vm.findClass E = some ce.cls → vx_W p l e R s m args below meth c H1 locs1 (cells + mc) (slots + ms) Q (F0 m pc ls rest) q9)
    (kk : ∀ (r : UInt64) (u : S) (t : State) (H1 : Heap) (locs1 : List Loc), t.heap = H1 → s.vm.Alike t.vm → post r u → B u t → H.size ≤ H1.size → (∀ q : Nat, q < H.size → ¬ A1 q → H1[q]? = H[q]?) → va_S A0 H0 H1 locs1 → W p l e R s m args below meth c H1 locs1 (cells + mc) (slots + ms) Q (F0 m (pc + 3) ls (.double r :: rest))) : W p l e R s m args below meth c H locs cells slots Q (F0 m pc ls st0) := by
  intro T hT X
  rcases hr T hT X with ⟨v, st₀, t, T', L, h0, X', hL, e1, e2, ⟨⟨r, u, hv, hp, hb⟩, hF⟩, st⟩ | ⟨q, st₀, t, T', L, E, ce, h0, X', hL, e1, e2, ⟨u, hp, hb, hF⟩, hce, hcv, hcl, st⟩
  · cases hv
    obtain ⟨k1, k2, k3⟩ := vx_keep h0 e1 hS hA hf hL hF
    obtain ⟨t2, a1, b1⟩ := kk r u t T'.heap (locs ++ L) e1.symm (by rw [← e2]; exact X'.warmed.alike) hp hb k1 k2 k3 T' rfl X'
    exact ⟨t2, st t2 a1, b1⟩
  · obtain ⟨k1, k2, k3⟩ := vx_keep h0 e1 hS hAX hf hL hF
    obtain ⟨t2, a1, b1⟩ := kx E ce q u t T'.heap (locs ++ L) e1.symm (by rw [← e2]; exact X'.warmed.alike) hp hb k1 k2 k3 (by rw [e1]; exact hce) hcv hcl T' rfl X'
    exact ⟨t2, st.trans a1, b1⟩
theorem vx_callv {S SX : Type} {post : S → Prop} {px : SX → Prop} {B : S → State → Prop} {BX : String → SX → State → Prop} {AX : Nat → Prop} (hr : vx_Run p l e R s m args below meth c H locs cells slots mc ms (F0 m pc ls st0) rest (va_Qv post B A1 a) (vx_X px BX AX) free) (hS : va_S A0 H0 H locs) (hA : ∀ q, q < H.size → A1 q → A0 q) (hf : ∀ q, free q → A0 q) (hAX : ∀ q, q < H.size → AX q → A0 q)
    (kx : ∀ (E : String) (ce : Cell) (q9 : Addr) (u : SX) (t : State) (H1 : Heap) (locs1 : List Loc), t.heap = H1 → s.vm.Alike t.vm → px u → BX E u t → H.size ≤ H1.size → (∀ q : Nat, q < H.size → ¬ AX q → H1[q]? = H[q]?) → va_S A0 H0 H1 locs1 → H1[q9]? = some ce → ce.vm = .none → s.vm.findClass E = some ce.cls → vx_W p l e R s m args below meth c H1 locs1 (cells + mc) (slots + ms) Q (F0 m pc ls rest) q9)
    (kk : ∀ (u : S) (t : State) (H1 : Heap) (locs1 : List Loc), t.heap = H1 → s.vm.Alike t.vm → post u → B u t → H.size ≤ H1.size → (∀ q : Nat, q < H.size → ¬ A1 q → H1[q]? = H[q]?) → va_S A0 H0 H1 locs1 → W p l e R s m args below meth c H1 locs1 (cells + mc) (slots + ms) Q (F0 m (pc + 3) ls (rest))) : W p l e R s m args below meth c H locs cells slots Q (F0 m pc ls st0) := by
  intro T hT X
  rcases hr T hT X with ⟨v, st₀, t, T', L, h0, X', hL, e1, e2, ⟨⟨u, hv, hp, hb⟩, hF⟩, st⟩ | ⟨q, st₀, t, T', L, E, ce, h0, X', hL, e1, e2, ⟨u, hp, hb, hF⟩, hce, hcv, hcl, st⟩
  · cases hv
    obtain ⟨k1, k2, k3⟩ := vx_keep h0 e1 hS hA hf hL hF
    obtain ⟨t2, a1, b1⟩ := kk u t T'.heap (locs ++ L) e1.symm (by rw [← e2]; exact X'.warmed.alike) hp hb k1 k2 k3 T' rfl X'
    exact ⟨t2, st t2 a1, b1⟩
  · obtain ⟨k1, k2, k3⟩ := vx_keep h0 e1 hS hAX hf hL hF
    obtain ⟨t2, a1, b1⟩ := kx E ce q u t T'.heap (locs ++ L) e1.symm (by rw [← e2]; exact X'.warmed.alike) hp hb k1 k2 k3 (by rw [e1]; exact hce) hcv hcl T' rfl X'
    exact ⟨t2, st.trans a1, b1⟩
/-- caught by the row x of this method's table; the rows ahead don't take it -/
theorem vx_catch {own name : String} {E : String} {ce : Cell} {q : Addr} (hown : s.vm.findClass own = some m.cls) (pre : List ExceptionTableEntry) (x : ExceptionTableEntry) (suf : List ExceptionTableEntry) (hsplit : c.exceptionTable.toList = pre ++ x :: suf)
    (hpass : ∀ z ∈ pre, covers z pc = false ∨ (z.catchType ≠ 0 ∧ ∃ nm : String, (Cond.classLink own z.catchType nm).before args s = true ∧ va_Nc E nm s)) (hx : covers x pc = true) (h0 : x.catchType ≠ 0)
    (hlink : (Cond.classLink own x.catchType name).before args s = true) (hcast : (Cond.castable E name).before args s = true) (hcell : H[q]? = some ce) (hv : ce.vm = .none) (hcl : s.vm.findClass E = some ce.cls)
    (kk : W p l e R s m args below meth c H locs cells slots Q (F0 m x.handlerPc ls [.ref q])) : vx_W p l e R s m args below meth c H locs cells slots Q (F0 m pc ls rest) q := by
  intro T hT X
  have hpl : e.platform.magicAccessors = ({} : Platform).magicAccessors := by rw [X.admits.platform]
  obtain ⟨c3, c4, hc3, hc4, hasg⟩ := Cond.castable_spec hcast
  cases Option.some.inj (hc3.symm.trans hcl)
  obtain ⟨c5, hc5, hcl5⟩ := Cond.classLink_spec hown hlink e.platform hpl
  cases Option.some.inj (hc4.symm.trans hc5)
  obtain ⟨vm', X', st⟩ := X.thenCaughtThrough q (g := F0 m pc ls rest) rfl (Steps.refl _) (by rw [hT]; exact hcell) (by rw [hv]; rfl) (by obtain ⟨k9, h9, -⟩ := Vm.findClass_spec hcl; exact ⟨k9, h9⟩) pre x suf hsplit
    (fun z hz => by
      rcases hpass z hz with h | ⟨hz0, nm, hl1, hn1⟩
      · exact Or.inl h
      · obtain ⟨c6, hc6, hcl6⟩ := Cond.classLink_spec hown hl1 e.platform hpl
        obtain ⟨a8, b8, h1, h2, h3⟩ := hn1
        cases Option.some.inj (h1.symm.trans hcl)
        cases Option.some.inj (h2.symm.trans hc6)
        exact Or.inr ⟨hz0, _, hcl6, h3⟩) hx (Or.inr ⟨h0, c4, hcl5, hasg⟩)
  obtain ⟨t, a1, b1⟩ := kk (T.setVm vm') hT X'
  exact ⟨t, st.trans a1, b1⟩
end Rows
section Ends
variable {p : Program} {l : Launch} {e : Env} {R : Room} {s : State} {m : MethodId} {args : Array Value} {below : List Frame} {meth : Method} {c : Code} {H : Heap} {locs : List Loc} {cells slots : Nat} {Q : State → Prop}
variable {mc ms : Nat} {free : Addr → Prop} {A0 A1 : Nat → Prop} {H0 : Heap} {a : Array Value} {ls : Array Slot} {st0 rest : List Value}
variable {Qc : Array Value → State → Outcome → State → Prop} {XC : String → State → State → Prop}
/-- what a body that may throw owes at its end -/
def vx_MQ (below : List Frame) (Qc : Array Value → State → Outcome → State → Prop) (XC : String → State → State → Prop) (a : Array Value) (s : State) (mc ms : Nat) (free : Addr → Prop) : State → Prop := fun t =>
  ∃ o, t.status = .running ∧ Ended t below o ∧ vx_Q Qc XC mc ms free a s o t
theorem vx_ret {g : JFrame} {mc ms : Nat} (k : W p l e R s m args below meth c H locs cells slots (MQ below Qc args s mc ms free) g) : W p l e R s m args below meth c H locs cells slots (vx_MQ below Qc XC args s mc ms free) g := by
  intro T hT X
  obtain ⟨t, a1, o, b1, b2, b3, b4⟩ := k T hT X
  exact ⟨t, a1, o, b1, b2, Or.inl ⟨b3, b4⟩⟩
/-- not caught here: it goes on to the caller -/
theorem vx_widen {g : JFrame} {q : Addr} {k n : Nat} (h1 : cells ≤ k) (h2 : slots ≤ n) (kk : vx_W p l e R s m args below meth c H locs k n Q g q) : vx_W p l e R s m args below meth c H locs cells slots Q g q := fun T hT X => kk T hT (stand_widen X h1 h2)
theorem vx_out {pc : Nat} {E : String} {ce : Cell} {q : Addr} {mc ms : Nat} (hout : ∀ x ∈ c.exceptionTable.toList, covers x pc = false) (hlocks : meth.locks = false) (hcell : H[q]? = some ce) (hv : ce.vm = .none) (hcl : s.vm.findClass E = some ce.cls)
    (hx : ∀ t : State, t.heap = H → s.vm.Alike t.vm → XC E s t) (hf : ∀ z ∈ locs, free z.base) (hc : cells ≤ mc) (hs : slots ≤ ms) :
    vx_W p l e R s m args below meth c H locs cells slots (vx_MQ below Qc XC args s mc ms free) (F0 m pc ls rest) q := by
  intro T hT X
  obtain ⟨st1, hrun, hend, hW, hsm⟩ := X.leaveThrown q (g := F0 m pc ls rest) rfl rfl rfl hout hlocks
  have hcell9 : (T.setFrames (.throwing q :: below)).heap[q]? = some ce := by
    show T.heap[q]? = some ce
    rw [hT]; exact hcell
  exact ⟨_, st1, .threw q, hrun, hend, Or.inr ⟨q, rfl, E, ce, locs, hx _ hT hW.alike, hcell9, hv, hcl, hW, hsm.mono hc hs, hf⟩⟩
theorem vx_frame {U : State} {k n : Nat} (h : s.sameButNew ({ U with vm := s.vm } : State) locs k n) : s.heap.size ≤ U.heap.size ∧ ∀ q : Nat, q < s.heap.size → (∀ z ∈ locs, z.base ≠ q) → U.heap[q]? = s.heap[q]? := by
  obtain ⟨-, h2, -, -, -, h6⟩ := h
  refine ⟨h2, fun q hq hz => ?_⟩
  obtain ⟨c9, e1, e2, e3, e4⟩ := h6 q _ (Array.getElem?_eq_getElem hq)
  have hs : c9.slots = (s.heap[q]).slots := Array.ext_getElem? fun i => e4 i fun hm => hz _ hm rfl
  have h9 : c9 = s.heap[q] := by
    rw [hs] at e2
    exact e2
  have e5 : U.heap[q]? = some c9 := e1
  rw [e5, h9, Array.getElem?_eq_getElem hq]
/-- the words of a throw but the four that speak of the heap -/
def vx_no (w : Cond) : Bool := decide (w ≠ .isRef (.static Bundle.tN "UNASSIGNED_STACK" Bundle.steD)) && decide (w ≠ .isRef (.static Bundle.tN "SUPPRESSED_SENTINEL" Bundle.listD)) && decide (w ≠ .laysStatic Bundle.tN "UNASSIGNED_STACK" Bundle.steD) && decide (w ≠ .laysStatic Bundle.tN "SUPPRESSED_SENTINEL" Bundle.listD)
def vx_at0 (own : String) (ic : Nat) (X : String) (names : List String) : List Cond := (Bundle.ownAtoms0 own ic X names).filter vx_no
def vx_atS (own : String) (ic : Nat) (X : String) (names : List String) : List Cond := (Bundle.ownAtoms own ic X names).filter vx_no
/-- a word that the tables alone decide, or a good one -/
def vx_ot (w : Cond) : Bool := w.onTables || goodWord w
theorem vx_ot_at {args a' : Array Value} {s U : State} {w : Cond} (hW : s.WarmedH U.vm) (hvm : s.vm = U.vm) (hg : vx_ot w = true) (h : w.before args s = true) : w.before a' U = true := by
  simp only [vx_ot, Bool.or_eq_true] at hg
  rcases hg with hg | hg
  · exact va_tabs hg hvm h
  · exact word_at hW (good_of_word hg) h
/-- a list's words: the good ones out of the method's own list, the others by premises of their own -/
theorem vx_hat {args : Array Value} {s : State} {L B : List Cond} (h1 : ∀ w ∈ L.filter goodWord, w.before args s = true) (h2 : ∀ w ∈ L.filter (fun w => !goodWord w), w ∈ B) (h3 : ∀ w ∈ B, w.before args s = true) : ∀ w ∈ L, w.before args s = true := by
  intro w hw
  by_cases g : goodWord w = true
  · exact h1 w (List.mem_filter.mpr ⟨hw, g⟩)
  · refine h3 w (h2 w (List.mem_filter.mpr ⟨hw, ?_⟩))
    show (!goodWord w) = true
    cases hgw : goodWord w
    · rfl
    · exact absurd hgw g
theorem vx_c {args : Array Value} {s : State} {w : Cond} {B : List Cond} (h : w.before args s = true) (t : ∀ w ∈ B, w.before args s = true) : ∀ w' ∈ w :: B, w'.before args s = true := fun w' h' => (List.mem_cons.mp h').elim (fun e => by rw [e]; exact h) (t w')
theorem vx_n {args : Array Value} {s : State} : ∀ w ∈ ([] : List Cond), w.before args s = true := fun _ h => nomatch h
theorem vx_own {args : Array Value} {s : State} {L : List Cond} (h1 : ∀ w ∈ L.filter vx_no, w.before args s = true)
    (hU : (Cond.isRef (.static Bundle.tN "UNASSIGNED_STACK" Bundle.steD)).before args s = true) (hN : (Cond.isRef (.static Bundle.tN "SUPPRESSED_SENTINEL" Bundle.listD)).before args s = true)
    (lU : (Cond.laysStatic Bundle.tN "UNASSIGNED_STACK" Bundle.steD).before args s = true) (lN : (Cond.laysStatic Bundle.tN "SUPPRESSED_SENTINEL" Bundle.listD).before args s = true) : ∀ w ∈ L, w.before args s = true := by
  intro w hw
  by_cases e1 : w = .isRef (.static Bundle.tN "UNASSIGNED_STACK" Bundle.steD)
  · rw [e1]; exact hU
  · by_cases e2 : w = .isRef (.static Bundle.tN "SUPPRESSED_SENTINEL" Bundle.listD)
    · rw [e2]; exact hN
    · by_cases e3 : w = .laysStatic Bundle.tN "UNASSIGNED_STACK" Bundle.steD
      · rw [e3]; exact lU
      · by_cases e4 : w = .laysStatic Bundle.tN "SUPPRESSED_SENTINEL" Bundle.listD
        · rw [e4]; exact lN
        · exact h1 w (List.mem_filter.mpr ⟨hw, by unfold vx_no; rw [decide_eq_true e1, decide_eq_true e2, decide_eq_true e3, decide_eq_true e4]; rfl⟩)
/-- where a static field lies, its class's statics cell in H -/
def vx_L (C n d : String) (A : Nat → Prop) (U : State) (H : Heap) : Prop := ∃ (c : ClassId) (k : Class) (i : Nat) (f : Field) (a : Nat) (cell : Cell), U.vm.findClass C = some c ∧ U.fieldFound? C n d = some (c, k, i, f) ∧ f.isStatic = true ∧ k.statics = some a ∧ H[a]? = some cell ∧ cell.vm.isStatics = true ∧ cell.cls = c ∧ f.slot < cell.slots.size ∧ k.staticTypes[f.slot]? = some f.type ∧ ¬ A a
theorem vx_L.moved {C n d : String} {A : Nat → Prop} {u U : State} {H : Heap} (hvm : u.vm.Alike U.vm) (h : vx_L C n d A u H) : vx_L C n d A U H := by
  obtain ⟨c, k, i, f, a, cell, h1, h2, h3, h4, h5, h6, h7, h8, h9, h10⟩ := h
  obtain ⟨k', hi', he⟩ := State.fieldFound?_setVm hvm h2
  exact ⟨c, k', i, f, a, cell, by rw [hvm.findClass]; exact h1, hi', h3, by rw [he]; exact h4, h5, h6, h7, h8, by rw [he]; exact h9, h10⟩
theorem vx_L.kept {C n d : String} {A : Nat → Prop} {U : State} {H H1 : Heap} (h : vx_L C n d A U H) (hq : ∀ a : Nat, a < H.size → ¬ A a → H1[a]? = H[a]?) : vx_L C n d A U H1 := by
  obtain ⟨c, k, i, f, a, cell, h1, h2, h3, h4, h5, h6, h7, h8, h9, h10⟩ := h
  exact ⟨c, k, i, f, a, cell, h1, h2, h3, h4, by rw [hq a (Array.getElem?_eq_some_iff.mp h5).1 h10]; exact h5, h6, h7, h8, h9, h10⟩
theorem vx_L.narrow {C n d : String} {A B : Nat → Prop} {U : State} {H : Heap} (h : vx_L C n d A U H) (hAB : ∀ q, B q → A q) : vx_L C n d B U H := by
  obtain ⟨c, k, i, f, a, cell, h1, h2, h3, h4, h5, h6, h7, h8, h9, h10⟩ := h
  exact ⟨c, k, i, f, a, cell, h1, h2, h3, h4, h5, h6, h7, h8, h9, fun z => h10 (hAB _ z)⟩
theorem vx_L.word {C n d : String} {A : Nat → Prop} {s : State} {args : Array Value} (h : vx_L C n d A s s.heap) : (Cond.laysStatic C n d).before args s = true := by
  obtain ⟨c, k, i, f, a, cell, h1, h2, h3, h4, h5, h6, h7, h8, h9, -⟩ := h
  show (Cond.laysStatic C n d).holds args s none s [] = true
  exact Cond.laysStatic_of h1 h2 h3 h4 h5 h6 h7 h8 h9
/-- .. and what it holds: null or some reference -/
def vx_Zq (C n d : String) (A : Nat → Prop) (U : State) (H : Heap) : Prop := va_Zq C n d A U H ∧ vx_L C n d A U H
theorem vx_Zq.moved {C n d : String} {A : Nat → Prop} {u U : State} {H : Heap} (hvm : u.vm.Alike U.vm) (h : vx_Zq C n d A u H) : vx_Zq C n d A U H := ⟨va_Zq.moved hvm h.1, vx_L.moved hvm h.2⟩
theorem vx_Zq.kept {C n d : String} {A : Nat → Prop} {U : State} {H H1 : Heap} (h : vx_Zq C n d A U H) (hq : ∀ a : Nat, a < H.size → ¬ A a → H1[a]? = H[a]?) : vx_Zq C n d A U H1 := ⟨va_Zq.kept h.1 hq, vx_L.kept h.2 hq⟩
theorem vx_Zq.narrow {C n d : String} {A B : Nat → Prop} {U : State} {H : Heap} (h : vx_Zq C n d A U H) (hAB : ∀ q, B q → A q) : vx_Zq C n d B U H := ⟨va_Zq.narrow h.1 hAB, vx_L.narrow h.2 hAB⟩
theorem vx_Zqof {args : Array Value} {s : State} {C n d : String} {A : Nat → Prop} (hl : (Cond.laysStatic C n d).before args s = true) (hini : (Cond.initialized C).before args s = true) (h : (Cond.isRef (.static C n d)).before args s = true) (hA : ∀ a : Nat, a < s.heap.size → ¬ A a) : vx_Zq C n d A s s.heap := by
  refine ⟨va_Zqof hl hini h hA, ?_⟩
  obtain ⟨c, k, i, f, a, cell, h1, h2, h3, h4, h5, h6, h7, h8, h9⟩ := Cond.laysStatic_spec hl
  exact ⟨c, k, i, f, a, cell, h1, h2, h3, h4, h5, h6, h7, h8, h9, hA a (Array.getElem?_eq_some_iff.mp h5).1⟩
theorem vx_isRef {C n d : String} {v : Value} {A : Nat → Prop} {s : State} {args : Array Value} (h : va_Z C n d v A s s.heap) (hv : v.isRef = true) : (Cond.isRef (.static C n d)).before args s = true := by
  obtain ⟨cf, kf, fi, f, a, cell, h1, h2, h3, h4, h5, h6, h7, -⟩ := h
  have he : (Term.static C n d).eval args s none [] s = some v := by
    simp [Term.eval, State.fieldNamed?, h1, h2, h4, h5, h6, h7]
  simp only [Cond.before, Cond.holds, Cond.value, he]
  cases v <;> simp_all [Value.isRef]
theorem vx_isRefq {C n d : String} {A : Nat → Prop} {s : State} {args : Array Value} (h : va_Zq C n d A s s.heap) : (Cond.isRef (.static C n d)).before args s = true := by
  rcases h with h | ⟨t, h⟩
  · exact vx_isRef h rfl
  · exact vx_isRef h rfl
/-- the same frame, seen from here: as if the method were called anew in this heap -/
theorem vx_rebase {T : State} (X : Stand p l e R s m args below meth c T locs cells slots) {R' : Room} (hf : R'.frames ≤ R.frames) (hl : R'.locals ≤ R.locals) (hc : cells + R'.cells ≤ R.cells) (hs : slots + R'.slots ≤ R.slots) :
    Stand p l e R' ((T.setVm s.vm).setFrames (.invoking m args :: below)) m args below meth c T [] 0 0 := by
  have htop : (T.setVm s.vm).topJava?.isSome := X.here.top
  have hF : ((T.setVm s.vm).setFrames (.invoking m args :: below)).frames = .invoking m args :: below := State.frames_setFrames _ (State.cur_lt_of_top htop)
  obtain ⟨g₀, hg0⟩ := Option.isSome_iff_exists.mp htop
  obtain ⟨r, hr⟩ := State.topJava?_eq_some.mp hg0
  have hl9 : e.platform.stackLimits (T.setVm s.vm).me = e.platform.stackLimits s.me := X.limits
  have hb9 : (T.setVm s.vm).me.stackBytes = s.me.stackBytes := X.bytes
  refine ⟨X.admits, X.cas, X.clock, hF, ?_, X.hears, X.method, X.code, X.here, X.tail, X.warmed, ?_, ?_, ?_⟩
  · have h := X.room
    have hU : ((T.setVm s.vm).setFrames (.invoking m args :: below)).localsInUse = s.localsInUse := by
      rw [State.localsInUse_invoking hF (meth := meth) (c := c) X.method X.code, State.localsInUse_invoking X.frames X.method X.code]
    simp only [State.hasRoom, Bool.and_eq_true, decide_eq_true_eq] at h ⊢
    obtain ⟨⟨⟨⟨h1, h2, h3, h4, h5, h6⟩, h7⟩, h8⟩, h9⟩ := h
    rw [X.frames, List.length_cons] at h2 h3
    have q1 := X.heapSize
    have q2 := X.used
    simp only [hF, hU, List.length_cons, State.stackLimits_setFrames, State.stackBytes_setFrames, hl9, hb9]
    refine ⟨⟨⟨⟨by omega, by omega, by omega, by omega, by omega, h6⟩, ?_⟩, ?_⟩, X.book⟩
    · show T.heap.size + R'.cells ≤ e.platform.maxCells
      omega
    · show T.slotsUsed + R'.slots ≤ e.platform.maxSlots
      omega
  · rw [State.stackLimits_setFrames]; rfl
  · rw [State.stackBytes_setFrames]; rfl
  · refine ⟨?_, Nat.le_refl _, Nat.le_refl _, ?_, ?_, fun a c9 h9 => ⟨c9, h9, rfl, rfl, fun _ _ => rfl⟩⟩
    · obtain ⟨t, ht, -⟩ := State.frames_cons hr
      show T.setVm s.vm = { ((T.setVm s.vm).setFrames (.invoking m args :: below)).setFrames (T.setVm s.vm).frames with heap := T.heap, slotsUsed := T.slotsUsed }
      rw [State.setFrames_setFrames, State.setFrames_self ht]
      rfl
    · show T.slotsUsed = T.slotsUsed + ((T.heap.toList.drop T.heap.size).map (·.slots.size)).sum
      rw [List.drop_eq_nil_of_le (Nat.le_of_eq Array.length_toList)]
      rfl
    · show ((T.heap.toList.drop T.heap.size).map (·.slots.size)).sum ≤ 0
      rw [List.drop_eq_nil_of_le (Nat.le_of_eq Array.length_toList)]
      exact Nat.le_refl _
/-- 'throw new E()': new; dup; invokespecial; athrow -/
theorem vx_throw0 {cc : ByteArray} {pc : Nat} (hexec : p.tables.exec = Jvm.exec) (hb : c.code = cc) (hl : l.stackTraces = false) {own cls : String} {names : List String} {ik ic mc ms : Nat} {A : Nat → Prop}
    (hown : s.vm.findClass own = some m.cls) (hcls : Bundle.fit cls = true) (hnames : ∀ n ∈ names, Bundle.fit n = true)
    (hk : (Cond.classLink own ik cls).before args s = true) (hini : (Cond.initialized cls).before args s = true) (hat : ∀ w ∈ vx_at0 own ic cls names, w.before args s = true)
    (hgood : ∀ w ∈ Cond.classLink own ik cls :: Cond.initialized cls :: vx_at0 own ic cls names, vx_ot w = true)
    (hU : vx_Zq Bundle.tN "UNASSIGNED_STACK" Bundle.steD A s s.heap) (hN : vx_Zq Bundle.tN "SUPPRESSED_SENTINEL" Bundle.listD A s s.heap) (hS : va_S A s.heap H locs) (hsize : ls.size = c.maxLocals)
    (d0 : decode cc pc = .ok (.new ik, 3)) (d3 : decode cc (pc + 3) = .ok (.dup, 1)) (d4 : decode cc (pc + 4) = .ok (.invokespecial ic, 3)) (d7 : decode cc (pc + 7) = .ok (.athrow, 1))
    (hout : ∀ x ∈ c.exceptionTable.toList, covers x (pc + 7) = false)
    (hRframes : names.length + 3 < R.frames) (hRlocals : (rest.map fun v => v.category).sum + (13 * (names.length + 1) + 42) ≤ R.locals) (hRcells : cells + 1 ≤ R.cells) (hRslots : slots + 6 ≤ R.slots) (hlocks : meth.locks = false)
    (hx : ∀ t : State, s.vm.Alike t.vm → H.size ≤ t.heap.size → (∀ q : Nat, q < H.size → t.heap[q]? = H[q]?) → XC cls s t)
    (hf : ∀ z ∈ locs, free z.base) (hc : cells + 1 ≤ mc) (hs : slots + 6 ≤ ms) :
    W p l e R s m args below meth c H locs cells slots (vx_MQ below Qc XC args s mc ms free) (F0 m pc ls rest) := by
  intro T hT X
  have htr : e.platform.stackTraces = false := (show e.platform.stackTraces = l.stackTraces by rw [X.admits.platform]).trans hl
  have Y := vx_rebase X (R' := { frames := R.frames, locals := R.locals, cells := 1, slots := 6 }) (Nat.le_refl _) (Nat.le_refl _) hRcells hRslots
  obtain ⟨s', hA⟩ : ∃ z, z = (T.setVm s.vm).setFrames (.invoking m args :: below) := ⟨_, rfl⟩
  rw [← hA] at Y
  have hvm : s'.vm = s.vm := by rw [hA]; rfl
  have hhp : s'.heap = H := by rw [hA]; exact hT
  have hW0 : s.WarmedH s'.vm := by rw [hvm]; exact State.WarmedH.refl s
  have hat' : ∀ w ∈ vx_at0 own ic cls names, w.before args s' = true := fun w hw => vx_ot_at hW0 hvm.symm (hgood w (List.mem_cons_of_mem _ (List.mem_cons_of_mem _ hw))) (hat w hw)
  have hk' : (Cond.classLink own ik cls).before args s' = true := vx_ot_at hW0 hvm.symm (hgood _ List.mem_cons_self) hk
  have hini' : (Cond.initialized cls).before args s' = true := vx_ot_at hW0 hvm.symm (hgood _ (List.mem_cons_of_mem _ List.mem_cons_self)) hini
  have hU' : vx_Zq Bundle.tN "UNASSIGNED_STACK" Bundle.steD A s' s'.heap := by rw [hhp]; exact vx_Zq.moved hW0.alike (hU.kept hS.2.1)
  have hN' : vx_Zq Bundle.tN "SUPPRESSED_SENTINEL" Bundle.listD A s' s'.heap := by rw [hhp]; exact vx_Zq.moved hW0.alike (hN.kept hS.2.1)
  have h : ∀ w ∈ Bundle.ownAtoms0 own ic cls names, w.before args s' = true := vx_own hat' (vx_isRefq hU'.1) (vx_isRefq hN'.1) hU'.2.word hN'.2.word
  have hown' : s'.vm.findClass own = some m.cls := by rw [hvm]; exact hown
  have hins : (Cond.instantiable cls 6).before args s' = true := h _ (by simp [Bundle.ownAtoms0])
  obtain ⟨vm₁, cX, kX, hfX, hkX, -, -, X₁, st1⟩ := Y.newCold hexec (own := own) (C := cls) (index := ik) (n := 6) hown' hk' hins hini'
    (g := F0 m pc ls rest) rfl (by rw [hb]; exact d0) (Nat.le_refl _) (Nat.le_refl _)
  generalize hT1 : (T.setVm vm₁).pushCell { cls := cX, slots := kX.instanceTypes.map defaultValue, vm := .none } = T1 at X₁ st1
  have hcat : (Value.ref T.heap.size).category = 1 := rfl
  have hcellA : T1.heap[T.heap.size]? = some (freshCell cX kX) := by rw [← hT1]; exact State.heap_pushCell_size _ _
  have d3' : decode c.code (pc + 3) = .ok (.dup, 1) := by rw [hb]; exact d3
  obtain ⟨U, hsteps, hrun, hend, hW, hsame, ce, hce, hO⟩ := X₁.ctorThrow0 hexec htr (own := own) (cls := cls) (names := names) (ic := ic) hown' hcls hnames h (fun x hx => nomatch hx) hfX hkX hcellA (by rw [hhp, hT]; exact Nat.le_refl _)
    (g := { method := m, pc := pc + 4, locals := ls, stack := .ref T.heap.size :: .ref T.heap.size :: rest, locked := none }) rfl hsize rfl rfl (rest := rest) rfl
    (by rw [hb]; exact d4) (by rw [hb]; exact d7) hout hRframes (by simp only [List.map_cons, List.sum_cons, hcat]; omega) hlocks
  obtain ⟨f1, f2⟩ := vx_frame hsame
  rw [hhp] at f1 f2
  have hWs : s.WarmedH U.vm := State.WarmedH.trans hW0 hW
  have hcl : s.vm.findClass cls = some ce.cls := by
    have h9 := hO.cls
    rw [hvm] at h9
    exact h9
  have hall : s.sameButNew ({ U with vm := s.vm } : State) locs mc ms := by
    subst hA
    obtain ⟨e1, e2⟩ := hsame
    rw [State.setFrames_setFrames] at e1
    have h2 : (T.setVm s.vm).sameButNew ({ U with vm := s.vm } : State) [] (0 + 1) (0 + 6) := ⟨e1, e2⟩
    have h3 := X.same.trans h2
    rw [List.append_nil] at h3
    exact h3.mono hc hs
  refine ⟨U, ?_, .threw T.heap.size, hrun, hend, Or.inr ⟨T.heap.size, rfl, cls, ce, locs, hx U hWs.alike f1 (fun q hq => f2 q hq (fun z hz => nomatch hz)), hce, hO.vm, hcl, hWs, hall, hf⟩⟩
  refine st1 _ ?_
  show Steps p.tables e below (T1.setTop { method := m, pc := pc + 3, locals := ls, stack := .ref T.heap.size :: rest, locked := none }) _
  jvm_step X₁.here [X₁.here.top, hexec, d3', Value.category]
  exact hsteps
/-- 'throw new E("text")': new; dup; ldc; invokespecial; athrow -/
theorem vx_throwS {cc : ByteArray} {pc : Nat} (hexec : p.tables.exec = Jvm.exec) (hb : c.code = cc) (hl : l.stackTraces = false) {own cls text : String} {names : List String} {ik is ic mc ms sa : Nat} {A : Nat → Prop}
    (hown : s.vm.findClass own = some m.cls) (hcls : Bundle.fit cls = true) (hnames : ∀ n ∈ names, Bundle.fit n = true)
    (hk : (Cond.classLink own ik cls).before args s = true) (hini : (Cond.initialized cls).before args s = true) (hstr : vk_R own is text sa s) (hat : ∀ w ∈ vx_atS own ic cls names, w.before args s = true)
    (hgood : ∀ w ∈ Cond.classLink own ik cls :: Cond.initialized cls :: vx_atS own ic cls names, vx_ot w = true)
    (hU : vx_Zq Bundle.tN "UNASSIGNED_STACK" Bundle.steD A s s.heap) (hN : vx_Zq Bundle.tN "SUPPRESSED_SENTINEL" Bundle.listD A s s.heap) (hS : va_S A s.heap H locs) (hsize : ls.size = c.maxLocals)
    (d0 : decode cc pc = .ok (.new ik, 3)) (d3 : decode cc (pc + 3) = .ok (.dup, 1)) (d4 : decode cc (pc + 4) = .ok (.ldc is, 2)) (d6 : decode cc (pc + 6) = .ok (.invokespecial ic, 3)) (d9 : decode cc (pc + 9) = .ok (.athrow, 1))
    (hout : ∀ x ∈ c.exceptionTable.toList, covers x (pc + 9) = false)
    (hRframes : names.length + 3 < R.frames) (hRlocals : (rest.map fun v => v.category).sum + (13 * (names.length + 1) + 43) ≤ R.locals) (hRcells : cells + 1 ≤ R.cells) (hRslots : slots + 6 ≤ R.slots) (hlocks : meth.locks = false)
    (hx : ∀ t : State, s.vm.Alike t.vm → H.size ≤ t.heap.size → (∀ q : Nat, q < H.size → t.heap[q]? = H[q]?) → XC cls s t)
    (hf : ∀ z ∈ locs, free z.base) (hc : cells + 1 ≤ mc) (hs : slots + 6 ≤ ms) :
    W p l e R s m args below meth c H locs cells slots (vx_MQ below Qc XC args s mc ms free) (F0 m pc ls rest) := by
  intro T hT X
  have htr : e.platform.stackTraces = false := (show e.platform.stackTraces = l.stackTraces by rw [X.admits.platform]).trans hl
  have Y := vx_rebase X (R' := { frames := R.frames, locals := R.locals, cells := 1, slots := 6 }) (Nat.le_refl _) (Nat.le_refl _) hRcells hRslots
  obtain ⟨s', hA⟩ : ∃ z, z = (T.setVm s.vm).setFrames (.invoking m args :: below) := ⟨_, rfl⟩
  rw [← hA] at Y
  have hvm : s'.vm = s.vm := by rw [hA]; rfl
  have hhp : s'.heap = H := by rw [hA]; exact hT
  have hW0 : s.WarmedH s'.vm := by rw [hvm]; exact State.WarmedH.refl s
  have hat' : ∀ w ∈ vx_atS own ic cls names, w.before args s' = true := fun w hw => vx_ot_at hW0 hvm.symm (hgood w (List.mem_cons_of_mem _ (List.mem_cons_of_mem _ hw))) (hat w hw)
  have hk' : (Cond.classLink own ik cls).before args s' = true := vx_ot_at hW0 hvm.symm (hgood _ List.mem_cons_self) hk
  have hini' : (Cond.initialized cls).before args s' = true := vx_ot_at hW0 hvm.symm (hgood _ (List.mem_cons_of_mem _ List.mem_cons_self)) hini
  have hU' : vx_Zq Bundle.tN "UNASSIGNED_STACK" Bundle.steD A s' s'.heap := by rw [hhp]; exact vx_Zq.moved hW0.alike (hU.kept hS.2.1)
  have hN' : vx_Zq Bundle.tN "SUPPRESSED_SENTINEL" Bundle.listD A s' s'.heap := by rw [hhp]; exact vx_Zq.moved hW0.alike (hN.kept hS.2.1)
  have h : ∀ w ∈ Bundle.ownAtoms own ic cls names, w.before args s' = true := vx_own hat' (vx_isRefq hU'.1) (vx_isRefq hN'.1) hU'.2.word hN'.2.word
  have hown' : s'.vm.findClass own = some m.cls := by rw [hvm]; exact hown
  have hins : (Cond.instantiable cls 6).before args s' = true := h _ (by simp [Bundle.ownAtoms])
  obtain ⟨vm₁, cX, kX, hfX, hkX, -, -, X₁, st1⟩ := Y.newCold hexec (own := own) (C := cls) (index := ik) (n := 6) hown' hk' hins hini'
    (g := F0 m pc ls rest) rfl (by rw [hb]; exact d0) (Nat.le_refl _) (Nat.le_refl _)
  generalize hT1 : (T.setVm vm₁).pushCell { cls := cX, slots := kX.instanceTypes.map defaultValue, vm := .none } = T1 at X₁ st1
  have hcat : (Value.ref T.heap.size).category = 1 := rfl
  have hcellA : T1.heap[T.heap.size]? = some (freshCell cX kX) := by rw [← hT1]; exact State.heap_pushCell_size _ _
  have d3' : decode c.code (pc + 3) = .ok (.dup, 1) := by rw [hb]; exact d3
  have d4' : decode c.code (pc + 4) = .ok (.ldc is, 2) := by rw [hb]; exact d4
  have hstr' : vk_R own is text sa s' := vk_R.warm hW0 hstr
  obtain ⟨U, hsteps, hrun, hend, hW, hsame, ce, hce, hO⟩ := X₁.ctorThrowS hexec htr (own := own) (cls := cls) (names := names) (ic := ic) hown' hcls hnames h (fun x hx => nomatch hx) hfX hkX hcellA (by rw [hhp, hT]; exact Nat.le_refl _) (msg := .ref sa) rfl
    (g := { method := m, pc := pc + 6, locals := ls, stack := .ref sa :: .ref T.heap.size :: .ref T.heap.size :: rest, locked := none }) rfl hsize rfl rfl (rest := rest) rfl
    (by rw [hb]; exact d6) (by rw [hb]; exact d9) hout hRframes (by simp only [List.map_cons, List.sum_cons, hcat]; omega) hlocks
  obtain ⟨f1, f2⟩ := vx_frame hsame
  rw [hhp] at f1 f2
  have hWs : s.WarmedH U.vm := State.WarmedH.trans hW0 hW
  have hcl : s.vm.findClass cls = some ce.cls := by
    have h9 := hO.cls
    rw [hvm] at h9
    exact h9
  have hall : s.sameButNew ({ U with vm := s.vm } : State) locs mc ms := by
    subst hA
    obtain ⟨e1, e2⟩ := hsame
    rw [State.setFrames_setFrames] at e1
    have h2 : (T.setVm s.vm).sameButNew ({ U with vm := s.vm } : State) [] (0 + 1) (0 + 6) := ⟨e1, e2⟩
    have h3 := X.same.trans h2
    rw [List.append_nil] at h3
    exact h3.mono hc hs
  refine ⟨U, ?_, .threw T.heap.size, hrun, hend, Or.inr ⟨T.heap.size, rfl, cls, ce, locs, hx U hWs.alike f1 (fun q hq => f2 q hq (fun z hz => nomatch hz)), hce, hO.vm, hcl, hWs, hall, hf⟩⟩
  refine st1 _ ?_
  show Steps p.tables e below (T1.setTop { method := m, pc := pc + 3, locals := ls, stack := .ref T.heap.size :: rest, locked := none }) _
  jvm_step X₁.here [X₁.here.top, hexec, d3', Value.category]
  exact X₁.ldcString hexec (own := own) (text := text) (index := is) (a := sa) hown' hstr'.1 hstr'.2
    (g := { method := m, pc := pc + 4, locals := ls, stack := .ref T.heap.size :: .ref T.heap.size :: rest, locked := none }) rfl d4' _ hsteps
/-- 'throw new E("text")', the text by a wide index -/
theorem vx_throwSW {cc : ByteArray} {pc : Nat} (hexec : p.tables.exec = Jvm.exec) (hb : c.code = cc) (hl : l.stackTraces = false) {own cls text : String} {names : List String} {ik is ic mc ms sa : Nat} {A : Nat → Prop}
    (hown : s.vm.findClass own = some m.cls) (hcls : Bundle.fit cls = true) (hnames : ∀ n ∈ names, Bundle.fit n = true)
    (hk : (Cond.classLink own ik cls).before args s = true) (hini : (Cond.initialized cls).before args s = true) (hstr : vk_R own is text sa s) (hat : ∀ w ∈ vx_atS own ic cls names, w.before args s = true)
    (hgood : ∀ w ∈ Cond.classLink own ik cls :: Cond.initialized cls :: vx_atS own ic cls names, vx_ot w = true)
    (hU : vx_Zq Bundle.tN "UNASSIGNED_STACK" Bundle.steD A s s.heap) (hN : vx_Zq Bundle.tN "SUPPRESSED_SENTINEL" Bundle.listD A s s.heap) (hS : va_S A s.heap H locs) (hsize : ls.size = c.maxLocals)
    (d0 : decode cc pc = .ok (.new ik, 3)) (d3 : decode cc (pc + 3) = .ok (.dup, 1)) (d4 : decode cc (pc + 4) = .ok (.ldc_w is, 3)) (d7 : decode cc (pc + 7) = .ok (.invokespecial ic, 3)) (d10 : decode cc (pc + 10) = .ok (.athrow, 1))
    (hout : ∀ x ∈ c.exceptionTable.toList, covers x (pc + 10) = false)
    (hRframes : names.length + 3 < R.frames) (hRlocals : (rest.map fun v => v.category).sum + (13 * (names.length + 1) + 43) ≤ R.locals) (hRcells : cells + 1 ≤ R.cells) (hRslots : slots + 6 ≤ R.slots) (hlocks : meth.locks = false)
    (hx : ∀ t : State, s.vm.Alike t.vm → H.size ≤ t.heap.size → (∀ q : Nat, q < H.size → t.heap[q]? = H[q]?) → XC cls s t)
    (hf : ∀ z ∈ locs, free z.base) (hc : cells + 1 ≤ mc) (hs : slots + 6 ≤ ms) :
    W p l e R s m args below meth c H locs cells slots (vx_MQ below Qc XC args s mc ms free) (F0 m pc ls rest) := by
  intro T hT X
  have htr : e.platform.stackTraces = false := (show e.platform.stackTraces = l.stackTraces by rw [X.admits.platform]).trans hl
  have Y := vx_rebase X (R' := { frames := R.frames, locals := R.locals, cells := 1, slots := 6 }) (Nat.le_refl _) (Nat.le_refl _) hRcells hRslots
  obtain ⟨s', hA⟩ : ∃ z, z = (T.setVm s.vm).setFrames (.invoking m args :: below) := ⟨_, rfl⟩
  rw [← hA] at Y
  have hvm : s'.vm = s.vm := by rw [hA]; rfl
  have hhp : s'.heap = H := by rw [hA]; exact hT
  have hW0 : s.WarmedH s'.vm := by rw [hvm]; exact State.WarmedH.refl s
  have hat' : ∀ w ∈ vx_atS own ic cls names, w.before args s' = true := fun w hw => vx_ot_at hW0 hvm.symm (hgood w (List.mem_cons_of_mem _ (List.mem_cons_of_mem _ hw))) (hat w hw)
  have hk' : (Cond.classLink own ik cls).before args s' = true := vx_ot_at hW0 hvm.symm (hgood _ List.mem_cons_self) hk
  have hini' : (Cond.initialized cls).before args s' = true := vx_ot_at hW0 hvm.symm (hgood _ (List.mem_cons_of_mem _ List.mem_cons_self)) hini
  have hU' : vx_Zq Bundle.tN "UNASSIGNED_STACK" Bundle.steD A s' s'.heap := by rw [hhp]; exact vx_Zq.moved hW0.alike (hU.kept hS.2.1)
  have hN' : vx_Zq Bundle.tN "SUPPRESSED_SENTINEL" Bundle.listD A s' s'.heap := by rw [hhp]; exact vx_Zq.moved hW0.alike (hN.kept hS.2.1)
  have h : ∀ w ∈ Bundle.ownAtoms own ic cls names, w.before args s' = true := vx_own hat' (vx_isRefq hU'.1) (vx_isRefq hN'.1) hU'.2.word hN'.2.word
  have hown' : s'.vm.findClass own = some m.cls := by rw [hvm]; exact hown
  have hins : (Cond.instantiable cls 6).before args s' = true := h _ (by simp [Bundle.ownAtoms])
  obtain ⟨vm₁, cX, kX, hfX, hkX, -, -, X₁, st1⟩ := Y.newCold hexec (own := own) (C := cls) (index := ik) (n := 6) hown' hk' hins hini'
    (g := F0 m pc ls rest) rfl (by rw [hb]; exact d0) (Nat.le_refl _) (Nat.le_refl _)
  generalize hT1 : (T.setVm vm₁).pushCell { cls := cX, slots := kX.instanceTypes.map defaultValue, vm := .none } = T1 at X₁ st1
  have hcat : (Value.ref T.heap.size).category = 1 := rfl
  have hcellA : T1.heap[T.heap.size]? = some (freshCell cX kX) := by rw [← hT1]; exact State.heap_pushCell_size _ _
  have d3' : decode c.code (pc + 3) = .ok (.dup, 1) := by rw [hb]; exact d3
  have d4' : decode c.code (pc + 4) = .ok (.ldc_w is, 3) := by rw [hb]; exact d4
  have hstr' : vk_R own is text sa s' := vk_R.warm hW0 hstr
  obtain ⟨U, hsteps, hrun, hend, hW, hsame, ce, hce, hO⟩ := X₁.ctorThrowS hexec htr (own := own) (cls := cls) (names := names) (ic := ic) hown' hcls hnames h (fun x hx => nomatch hx) hfX hkX hcellA (by rw [hhp, hT]; exact Nat.le_refl _) (msg := .ref sa) rfl
    (g := { method := m, pc := pc + 7, locals := ls, stack := .ref sa :: .ref T.heap.size :: .ref T.heap.size :: rest, locked := none }) rfl hsize rfl rfl (rest := rest) rfl
    (by rw [hb]; exact d7) (by rw [hb]; exact d10) hout hRframes (by simp only [List.map_cons, List.sum_cons, hcat]; omega) hlocks
  obtain ⟨f1, f2⟩ := vx_frame hsame
  rw [hhp] at f1 f2
  have hWs : s.WarmedH U.vm := State.WarmedH.trans hW0 hW
  have hcl : s.vm.findClass cls = some ce.cls := by
    have h9 := hO.cls
    rw [hvm] at h9
    exact h9
  have hall : s.sameButNew ({ U with vm := s.vm } : State) locs mc ms := by
    subst hA
    obtain ⟨e1, e2⟩ := hsame
    rw [State.setFrames_setFrames] at e1
    have h2 : (T.setVm s.vm).sameButNew ({ U with vm := s.vm } : State) [] (0 + 1) (0 + 6) := ⟨e1, e2⟩
    have h3 := X.same.trans h2
    rw [List.append_nil] at h3
    exact h3.mono hc hs
  refine ⟨U, ?_, .threw T.heap.size, hrun, hend, Or.inr ⟨T.heap.size, rfl, cls, ce, locs, hx U hWs.alike f1 (fun q hq => f2 q hq (fun z hz => nomatch hz)), hce, hO.vm, hcl, hWs, hall, hf⟩⟩
  refine st1 _ ?_
  show Steps p.tables e below (T1.setTop { method := m, pc := pc + 3, locals := ls, stack := .ref T.heap.size :: rest, locked := none }) _
  jvm_step X₁.here [X₁.here.top, hexec, d3', Value.category]
  exact X₁.ldcStringW hexec (own := own) (text := text) (index := is) (a := sa) hown' hstr'.1 hstr'.2
    (g := { method := m, pc := pc + 4, locals := ls, stack := .ref T.heap.size :: .ref T.heap.size :: rest, locked := none }) rfl d4' _ hsteps
end Ends
section Bodies
variable {l : Launch}
theorem vx_ofW {y : MethodName} {ws ws' : List Cond} {rm : Room} {Pc : Array Value → State → Prop} {Qc : Array Value → State → Outcome → State → Prop} {XC : String → State → State → Prop} {mc ms : Nat} {free : Addr → Prop} {cc : ByteArray} {maxL : Nat} {ret : Option FieldType}
    (hy : plainName y.cls = true) (hw : ws = Cond.code y cc maxL ret :: ws')
    (body : ∀ p e s m args below meth c s₁, BodyLoose p l y (headSpec ws rm) cc maxL ret e s m args below meth c s₁ → c.maxLocals = maxL → (∀ x ∈ c.exceptionTable.toList, False) → Pc args s →
      W p l e (headSpec ws rm).room s m args below meth c s.heap [] 0 0 (vx_MQ below Qc XC args s mc ms free) (entryFrame m args maxL)) : vx_Met l y ws rm Pc Qc XC mc ms free := by
  refine MetFree.of_bodyS (code := cc) (maxLocals := maxL) (ret := ret) hy ?_ ?_
  · intro args s m h hn
    obtain ⟨meth, c, h1, h2, h3, h4, h5, h6, -, -⟩ := Cond.code_spec hn (atoms_spec (ws := ws) h _ (by rw [hw]; exact List.mem_cons_self))
    exact ⟨meth, c, h1, h2, h3, h4, h5, h6⟩
  · intro p e s m args below meth c s₁ B hml hP _
    have hh0 : s₁.heap = s.heap := by rw [B.state]; rfl
    have ht : ∀ x ∈ c.exceptionTable.toList, False := by
      obtain ⟨meth9, c9, h1, h2, -, -, -, -, h7, -⟩ := Cond.code_spec B.named (atoms_spec (ws := ws) B.pre _ (by rw [hw]; exact List.mem_cons_self))
      cases Option.some.inj (h1.symm.trans B.method)
      cases Option.some.inj (h2.symm.trans (Stand.of_body B).code)
      intro x hx
      rw [Array.isEmpty_iff.mp h7] at hx
      cases hx
    obtain ⟨t, a1, o, b1, b2, b3⟩ := body p e s m args below meth c s₁ B hml ht hP s₁ hh0 (Stand.of_body B)
    exact ⟨t, o, a1, b1, b2, b3⟩
/-- the table of a body with handlers -/
theorem vx_table {p : Program} {x y : MethodName} {S : Spec} {cc bytes : ByteArray} {maxL maxL' : Nat} {ret ret' : Option FieldType} {e : Env} {s s₁ : State} {m : MethodId} {args : Array Value} {below : List Frame} {meth : Method} {c : Code} {hh : List (Nat × Nat × Nat × Nat)}
    (B : BodyLoose p l y S cc maxL ret e s m args below meth c s₁) (h : (Cond.codeWith y bytes maxL' ret' hh).before args s = true) : c.exceptionTable.toList = tableOf hh := by
  obtain ⟨m9, meth9, c9, hn9, h1, h2, -, -, h6, -⟩ := Cond.codeWith_spec h
  cases Option.some.inj (hn9.symm.trans B.named)
  cases Option.some.inj (h1.symm.trans B.method)
  cases Option.some.inj (h2.symm.trans (Stand.of_body B).code)
  rw [← h6, table_eq]
end Bodies
end VXA
/-! ===== END ===== -/
/-! ===== BEGIN a static call of a method with an exception table ===== -/
section VXS
variable {p : Program} {l : Launch} {e : Env} {R : Room} {s : State} {m : MethodId} {args : Array Value} {below : List Frame} {meth : Method} {c : Code} {T : State} {H : Heap} {locs : List Loc} {cells slots : Nat}
abbrev vx_CSW (R : Room) (s : State) (args : Array Value) (own : String) (index : Nat) (y : MethodName) (bytes : ByteArray) (maxL : Nat) (ret : Option FieldType) (hh : List (Nat × Nat × Nat × Nat)) (ws : List Cond) (rm : Room) (mc ms n : Nat) : Prop :=
  (rm.cells = mc ∧ rm.slots = ms ∧ rm.frames + 1 ≤ R.frames ∧ 8 + (maxL + 11) + rm.locals ≤ R.locals ∧ (∀ w ∈ ws, ∀ (a' : Array Value) (U : State), s.WarmedH U.vm → w.before a' U = true) ∧ Cond.codeWith y bytes maxL ret hh ∈ ws) ∧
  (Cond.codeWith y bytes maxL ret hh).before args s = true ∧ (Cond.initialized y.cls).before args s = true ∧ (y.cls ≠ "java/lang/invoke/MethodHandle" ∧ y.cls ≠ "java/lang/invoke/VarHandle") ∧
  (∀ sig, parseMethodDescriptor y.desc = some sig → n = sig.parameters.length) ∧ (Cond.methodLink own index y).before args s = true ∧ (Cond.static y).before args s = true
theorem vx_cwSW {own : String} {index maxL mc ms : Nat} {y : MethodName} {bytes : ByteArray} {ret : Option FieldType} {hh : List (Nat × Nat × Nat × Nat)} {Ts ws ws' : List Cond} {rm : Room} (n : Nat) (ht : ∀ w ∈ Ts, w.before args s = true) (hT : GoodIn Ts (va_wsS own index y ws)) (hw : ws = Cond.codeWith y bytes maxL ret hh :: ws') (hrc : rm.cells = mc) (hrs : rm.slots = ms)
    (hd : y.cls ≠ "java/lang/invoke/MethodHandle" ∧ y.cls ≠ "java/lang/invoke/VarHandle" ∧ (parseMethodDescriptor y.desc).map (fun d => d.parameters.length) = some n) (hR : rm.frames + 1 ≤ R.frames ∧ 8 + (maxL + 11) + rm.locals ≤ R.locals) :
    vx_CSW R s args own index y bytes maxL ret hh ws rm mc ms n := by
  have ok : ∀ w ∈ va_wsS own index y ws, w.before args s = true := fun w h => ht w (hT w h).1
  have hG : GoodIn Ts ws := fun w h => hT w (by unfold va_wsS; exact List.mem_append_right _ h)
  have hc : Cond.codeWith y bytes maxL ret hh ∈ ws := by rw [hw]; exact List.mem_cons_self
  refine ⟨⟨hrc, hrs, hR.1, hR.2, pay_in ht hG, hc⟩, ht _ (hG _ hc).1, ok _ (by simp [va_wsS]), ⟨hd.1, hd.2.1⟩, fun sig h => ?_, ok _ (by simp [va_wsS]), ok _ (by simp [va_wsS])⟩
  have h2 := hd.2.2
  rw [h] at h2
  exact (Option.some.inj h2).symm
theorem vx_callSW (X : Stand p l e R s m args below meth c T locs cells slots) (hexec : p.tables.exec = Jvm.exec) {own : String} {index : Nat} {y : MethodName} {bytes : ByteArray} {maxL : Nat} {ret : Option FieldType} {hh : List (Nat × Nat × Nat × Nat)}
    (hown : s.vm.findClass own = some m.cls) (hlink : (Cond.methodLink own index y).before args s = true) (hstat : (Cond.static y).before args s = true) (hinit : (Cond.initialized y.cls).before args s = true)
    (hcode : (Cond.codeWith y bytes maxL ret hh).before args s = true) (hy : y.cls ≠ "java/lang/invoke/MethodHandle" ∧ y.cls ≠ "java/lang/invoke/VarHandle")
    {W9 : Nat} {Pre : Pt → Array Value → Prop} {Post : Pt → Array Value → Option Value → Pt → Prop} (hK : Back l R p e below s args y 3 W9 Pre Post)
    {g : JFrame} (hg : g.method = m) (hsize : g.locals.size = c.maxLocals) {argsL rest : List Value} (hlen : ∀ sig, parseMethodDescriptor y.desc = some sig → argsL.length = sig.parameters.length)
    (hstack : g.stack = argsL.reverse ++ rest) (hW : 2 * g.monitorRoom + (rest.map fun v => v.category).sum ≤ W9) (hdg : decode c.code g.pc = .ok (.invokestatic index, 3))
    (hpre : ∀ vm₁, s.WarmedH vm₁ → Pre ⟨T.setVm vm₁, locs, cells, slots⟩ argsL.toArray) :
    ∃ (v : Option Value) (vm₁ : Vm) (B : Pt), s.WarmedH vm₁ ∧ Stand p l e R s m args below meth c B.U B.locs B.cells B.slots ∧ Post ⟨T.setVm vm₁, locs, cells, slots⟩ argsL.toArray v B ∧
      ∀ target, Steps p.tables e below (B.U.setTop { g with pc := g.pc + 3, stack := v.toList ++ rest }) target → Steps p.tables e below (T.setTop g) target := by
  obtain ⟨mk, methM, cM, hnamed, hmethM, -, -, -, -, -, -, hsigM⟩ := Cond.codeWith_spec hcode
  have hstatic : methM.isStatic = true := Cond.static_spec hnamed hmethM hstat
  obtain ⟨kP, hkP, -⟩ := className_of_methodNamed hnamed
  have hinitP : kP.init = .initialized := Cond.initialized_spec (findClass_of_methodNamed hnamed) hkP hinit
  obtain ⟨vm₁, X₁, hstep₁⟩ := X.invokestatic hexec hown hlink hnamed hmethM hstatic hkP hinitP hy (g := g) hg (argsL := argsL) (rest := rest) (hlen _ hsigM) hstack hdg
  obtain ⟨v, B, X', hpost, hsteps⟩ := hK m meth c ⟨T.setVm vm₁, locs, cells, slots⟩ { g with stack := rest } (.invokestatic index) mk argsL.toArray X₁ hg hsize hdg hW (X₁.named hnamed) (hpre vm₁ X₁.warmed)
  exact ⟨v, vm₁, B, X₁.warmed, X', hpost, fun target h => hstep₁ _ fun acts => by rw [doInvoke_state]; exact hsteps.trans h⟩
theorem vx_runSW {y : MethodName} {bytes cc : ByteArray} {maxL nL mc ms n index : Nat} {ret : Option FieldType} {hh : List (Nat × Nat × Nat × Nat)} {ws : List Cond} {rm : Room} {Pc : Array Value → State → Prop} {Qc : Array Value → State → Outcome → State → Prop} {free : Addr → Prop} {Ts : List Cond} {own : String} {As rest : List Value} {g : JFrame}
    (S : CallFix p m c cc nL s args Ts own) (hM : Met l y ws rm Pc Qc mc ms free) (cw : vx_CSW R s args own index y bytes maxL ret hh ws rm mc ms n) (hp : PreS s H Pc As)
    (hg : g.method = m) (hn : As.length = n) (hsize : g.locals.size = nL) (hstack : g.stack = As.reverse ++ rest) (hW : 2 * g.monitorRoom + (rest.map fun v => v.category).sum ≤ 8) (hdg : decode cc g.pc = .ok (.invokestatic index, 3)) (hf : cells + mc ≤ R.cells ∧ slots + ms ≤ R.slots) :
    va_Run p l e R s m args below meth c H locs cells slots mc ms g rest (Qc As.toArray) (free) := by
  obtain ⟨⟨hrc, hrs, hfr, hlo, hws, hcw⟩, hcode, hini, hy, hlen, hl, hstt⟩ := cw
  have hK : Back l R p e below s args y 3 8 (PreOf R mc ms Pc) (PostOf Qc mc ms free) := va_backW (hh := hh) (bytes := bytes) (maxL := maxL) (ret := ret) hM hp.1 hrc hrs hfr hlo hws hcw (fun a' U hW => word_at hW (Or.inl (by first | rfl | simp [Cond.onTables, Cond.keeps, Cond.steady])) hini)
  obtain ⟨hx, hb, hml, ho, -⟩ := S
  intro T hT X
  obtain ⟨v, vm₁, ⟨U', l2, c2, s2⟩, hW₁, X', ⟨g', mk, t, L, e1, e2, hq, h1, hL, h2, h3⟩, st⟩ := vx_callSW X hx (hh := hh) (bytes := bytes) (maxL := maxL) (ret := ret) ho hl hstt hini hcode hy hK hg (hsize.trans hml.symm) (argsL := As) (rest := rest) (fun sig h => hn.trans (hlen sig h)) hstack hW (by rw [hb]; exact hdg)
    (fun vm₁ hW₁ => ⟨hf.1, hf.2, hp.2 (T.setVm vm₁) hT hW₁⟩)
  dsimp only [Pt.U, Pt.locs, Pt.cells, Pt.slots] at X' e1 e2 h1 h2 h3 st
  subst h1; subst h2; subst h3
  exact ⟨v, (T.setVm vm₁).calling g' mk As.toArray, t, U', L, hT, X', hL, e1, e2, hq, st⟩
/-- not caught here, past rows that name other classes: it goes on to the caller -/
theorem vx_outP {p : Program} {l : Launch} {e : Env} {R : Room} {s : State} {m : MethodId} {args : Array Value} {below : List Frame} {meth : Method} {c : Code} {H : Heap} {locs : List Loc} {cells slots : Nat} {free : Addr → Prop} {ls : Array Slot} {rest : List Value} {Qc : Array Value → State → Outcome → State → Prop} {XC : String → State → State → Prop}
    {pc : Nat} {own E : String} {ce : Cell} {q : Addr} {mc ms : Nat} (hown : s.vm.findClass own = some m.cls) (hlocks : meth.locks = false)
    (hpass : ∀ z ∈ c.exceptionTable.toList, covers z pc = false ∨ (z.catchType ≠ 0 ∧ ∃ nm : String, (Cond.classLink own z.catchType nm).before args s = true ∧ va_Nc E nm s)) (hcell : H[q]? = some ce) (hv : ce.vm = .none) (hcl : s.vm.findClass E = some ce.cls)
    (hx : ∀ t : State, t.heap = H → s.vm.Alike t.vm → XC E s t) (hf : ∀ z ∈ locs, free z.base) (hc : cells ≤ mc) (hs : slots ≤ ms) :
    vx_W p l e R s m args below meth c H locs cells slots (vx_MQ below Qc XC args s mc ms free) (F0 m pc ls rest) q := by
  intro T hT X
  have hpl : e.platform.magicAccessors = ({} : Platform).magicAccessors := by rw [X.admits.platform]
  obtain ⟨vm', hW', X', st⟩ := X.outThrough hlocks q (g := F0 m pc ls rest) rfl rfl rfl (cell := ce) (by rw [hT]; exact hcell) (by rw [hv]; rfl)
    (by obtain ⟨k9, h9, -⟩ := Vm.findClass_spec hcl; exact ⟨k9, h9⟩) (fun z hz => by
      rcases hpass z hz with h | ⟨hz0, nm, hl1, hn1⟩
      · exact Or.inl h
      · obtain ⟨c6, hc6, hcl6⟩ := Cond.classLink_spec hown hl1 e.platform hpl
        obtain ⟨a8, b8, h1, h2, h3⟩ := hn1
        cases Option.some.inj (h1.symm.trans hcl)
        cases Option.some.inj (h2.symm.trans hc6)
        exact Or.inr ⟨hz0, _, hcl6, h3⟩)
  obtain ⟨g₀, hfr⟩ := X'.frames_eq
  have hcell9 : ((T.setVm vm').setFrames (.throwing q :: below)).heap[q]? = some ce := by
    show T.heap[q]? = some ce
    rw [hT]; exact hcell
  have hend : Ended ((T.setVm vm').setFrames (.throwing q :: below)) below (.threw q) := State.frames_setFrames _ (State.cur_lt_of_frames hfr)
  refine ⟨(T.setVm vm').setFrames (.throwing q :: below), ?_, .threw q, X'.here.running, hend, Or.inr ⟨q, rfl, E, ce, locs, hx _ hT (X'.ends _).1.alike, hcell9, hv, hcl, (X'.ends _).1, (X'.ends _).2.mono hc hs, hf⟩⟩
  rw [X.pushThrowing_eq]
  exact st
/-- a thing of a world lies in the heap -/
theorem vx_lt {D : va_G} {cl : List vw_C} {ws : va_W} {H1 : Heap} (h : va_P D cl ws H1) {k : Nat} {q : Nat × va_E} (hk : ws[k]? = some q) : q.1 < H1.size := (h k q hk).lt
end VXS
/-! ===== END ===== -/
/-! ===== BEGIN methods with a table of their own: called by a name, returning or throwing ===== -/
section VXH
/-! vx_backW, vx_callVX, vx_callSX, vx_callVW, vx_runVW, vx_runVX, vx_runSX, vx_ofWH follow the same proofs as their sisters above (Free/Laws.lean, Shelf42/LK1.lean); vx_outP calls Shelf42/NT130.lean (outThrough). -/
section
variable {l : Launch} {R : Room} {p : Program} {e : Env} {below : List Frame} {s : State} {sargs : Array Value} {y : MethodName} {len W9 : Nat}
theorem vx_backW {ws : List Cond} {rm : Room} {Pc : Array Value → State → Prop} {Qc : Array Value → State → Outcome → State → Prop} {XC : String → State → State → Prop} {mc ms : Nat} {free : Addr → Prop} {bytes : ByteArray} {maxL : Nat} {ret : Option FieldType} {hh : List (Nat × Nat × Nat × Nat)}
    (hM : vx_Met l y ws rm Pc Qc XC mc ms free) (hblind : FrameBlind Pc) (hrc : rm.cells = mc) (hrs : rm.slots = ms)
    (hframes : rm.frames + 1 ≤ R.frames) (hlocals : W9 + (maxL + 11) + rm.locals ≤ R.locals)
    (hws : ∀ w ∈ ws, ∀ a' U, s.WarmedH U.vm → w.before a' U = true) (hcode : Cond.codeWith y bytes maxL ret hh ∈ ws) (hinit : ∀ a' U, s.WarmedH U.vm → (Cond.initialized y.cls).before a' U = true) :
    vx_Back l R p e below s sargs y len W9 (PreOf R mc ms Pc) (PostOf Qc mc ms free) (vx_Post XC mc ms free) := by
  intro m meth c A g ig mk a X hg hsize hdg hW hn hp
  have h1 : (headSpec ws rm).pre.before a A.U = true := atoms_intro fun w hw => hws w hw _ _ X.warmed
  have h2 : (Cond.codeWith y bytes maxL ret hh).before a A.U = true := hws _ hcode _ _ X.warmed
  have h3 : (Cond.initialized y.cls).before a A.U = true := hinit _ _ X.warmed
  have h4 : A.cells + (headSpec ws rm).room.cells ≤ R.cells := by rw [show (headSpec ws rm).room.cells = mc from hrc]; exact hp.1
  have h5 : A.slots + (headSpec ws rm).room.slots ≤ R.slots := by rw [show (headSpec ws rm).room.slots = ms from hrs]; exact hp.2.1
  have hPc : Pc a (A.U.calling g mk a) := hblind _ _ _ _ hp.2.2
  obtain ⟨U, Ls, c0, s0⟩ := A
  dsimp only [Pt.U, Pt.locs, Pt.cells, Pt.slots] at h1 h2 h3 h4 h5 X hn hPc ⊢
  obtain ⟨m9, methY, cY, hn9, hmY, hcY, -, hlY, -⟩ := Cond.codeWith_spec h2
  cases Option.some.inj (hn9.symm.trans hn)
  obtain ⟨kY, hkY, -⟩ := className_of_methodNamed hn
  have hinitY : kY.init = .initialized := Cond.initialized_spec (findClass_of_methodNamed hn) hkY h3
  have h : At U g.method c below := by rw [hg]; exact X.here
  have hlocals9 : W9 + (maxL + 11) + (headSpec ws rm).room.locals ≤ R.locals := hlocals
  have happ : (headSpec ws rm).appliesLoose y e.platform (U.calling g mk a) = true :=
    Spec.appliesLoose_calling (g := g) h hdg hn hkY hinitY
      (X.room_calling (g := g) (R' := (headSpec ws rm).room) hsize hmY hcY hframes (by rw [hlY]; omega) h4 h5) h1
  obtain ⟨mid, hmid⟩ := h.above
  have hfr : (U.setTop g).frames = (.java g :: mid) ++ below := by rw [State.frames_setTop' g h.top, hmid]; rfl
  obtain ⟨o, s₂, hsteps, -, hend, hq⟩ := Steps.callFree hM p X.admits X.cas X.clock (acts := []) hfr happ hPc trivial
  have hq' : vx_Q Qc XC mc ms free a (U.calling g mk a) o s₂ := hq
  rw [State.frames_setTop' g h.top] at hend
  obtain ⟨g₀, hg0⟩ := Option.isSome_iff_exists.mp h.top
  obtain ⟨r, hr⟩ := State.topJava?_eq_some.mp hg0
  have hr' : (({ U with heap := s₂.heap, slotsUsed := s₂.slotsUsed } : State).setVm s₂.vm).frames = .java g₀ :: r := hr
  rcases hq' with ⟨hqc, L, hfe, hL⟩ | ⟨q, rfl, E, ce, L, hx, hce, hcv, hcl, hW₂, hsm, hL⟩
  · obtain ⟨⟨v, rfl⟩, hW₂, e2, q2, q3, q4, q5, q6⟩ := id hfe
    have e3 : s₂ = ({ (U.calling g mk a).setFrames s₂.frames with heap := s₂.heap, slotsUsed := s₂.slotsUsed } : State).setVm s₂.vm := by
      have : s₂ = ({ s₂ with vm := (U.calling g mk a).vm } : State).setVm s₂.vm := rfl
      rw [e2] at this
      exact this
    obtain ⟨c₂, i₂, len₂, hc₂, hd₂, hf₂⟩ := hend
    have hW' : U.WarmedH s₂.vm := hW₂
    have hcc : c₂ = c := by
      have h1 : s₂.code? g.method = U.code? g.method := by
        rw [State.code?_eq, State.code?_eq, hW'.alike.method?]
      exact Option.some.inj (hc₂.symm.trans (h1.trans h.code))
    subst hcc
    have hlen : len₂ = len := by rw [hdg] at hd₂; cases hd₂; rfl
    subst hlen
    have hs₂ : s₂ = (({ U with heap := s₂.heap, slotsUsed := s₂.slotsUsed } : State).setVm s₂.vm).setTop { g with pc := g.pc + len₂, stack := v.toList ++ g.stack } := by
      refine e3.trans ?_
      rw [hf₂, State.calling_eq h.top, State.setFrames_setFrames, State.setTop_of_frames _ hr', hr]
      rfl
    have hsame : U.sameButNew ({ U with heap := s₂.heap, slotsUsed := s₂.slotsUsed } : State) L mc ms := by
      refine ⟨?_, q2, q3, q4, q5, q6⟩
      obtain ⟨t, ht, -⟩ := State.frames_cons hr
      show ({ U with heap := s₂.heap, slotsUsed := s₂.slotsUsed } : State) = { U.setFrames U.frames with heap := s₂.heap, slotsUsed := s₂.slotsUsed }
      rw [State.setFrames_self ht]
    subst hg
    refine Or.inl ⟨v, ⟨(({ U with heap := s₂.heap, slotsUsed := s₂.slotsUsed } : State).setVm s₂.vm), Ls ++ L, c0 + mc, s0 + ms⟩,
      ⟨X.admits, X.cas, X.clock, X.frames, X.room, X.hears, X.method, X.code, (X.here.setHeapUsed s₂.heap s₂.slotsUsed).setVm hW'.alike, X.tail, State.WarmedH.trans X.warmed hW', X.limits, X.bytes, X.same.trans (hsame.setVm s.vm)⟩,
      ⟨g, mk, s₂, L, rfl, rfl, hqc, rfl, hL, rfl, rfl⟩, ?_⟩
    show Steps p.tables e below _ ((({ U with heap := s₂.heap, slotsUsed := s₂.slotsUsed } : State).setVm s₂.vm).setTop { g with pc := g.pc + len₂, stack := v.toList ++ g.stack })
    rw [← hs₂]
    exact hsteps
  · obtain ⟨e2, q2, q3, q4, q5, q6⟩ := id hsm
    have e3 : s₂ = ({ (U.calling g mk a).setFrames s₂.frames with heap := s₂.heap, slotsUsed := s₂.slotsUsed } : State).setVm s₂.vm := by
      have : s₂ = ({ s₂ with vm := (U.calling g mk a).vm } : State).setVm s₂.vm := rfl
      rw [e2] at this
      exact this
    have hf₂ : s₂.frames = .throwing q :: .java g :: U.frames.tail := hend
    have hW' : U.WarmedH s₂.vm := hW₂
    have hs₂ : s₂ = ((({ U with heap := s₂.heap, slotsUsed := s₂.slotsUsed } : State).setVm s₂.vm).setTop g).pushFrame (.throwing q) := by
      refine e3.trans ?_
      rw [hf₂, State.calling_eq h.top, State.setFrames_setFrames, State.pushFrame, State.frames_setTop _ hr', State.setTop_of_frames _ hr', State.setFrames_setFrames, hr]
      rfl
    have hsame : U.sameButNew ({ U with heap := s₂.heap, slotsUsed := s₂.slotsUsed } : State) L mc ms := by
      refine ⟨?_, q2, q3, q4, q5, q6⟩
      obtain ⟨t, ht, -⟩ := State.frames_cons hr
      show ({ U with heap := s₂.heap, slotsUsed := s₂.slotsUsed } : State) = { U.setFrames U.frames with heap := s₂.heap, slotsUsed := s₂.slotsUsed }
      rw [State.setFrames_self ht]
    subst hg
    refine Or.inr ⟨q, ⟨(({ U with heap := s₂.heap, slotsUsed := s₂.slotsUsed } : State).setVm s₂.vm), Ls ++ L, c0 + mc, s0 + ms⟩,
      ⟨X.admits, X.cas, X.clock, X.frames, X.room, X.hears, X.method, X.code, (X.here.setHeapUsed s₂.heap s₂.slotsUsed).setVm hW'.alike, X.tail, State.WarmedH.trans X.warmed hW', X.limits, X.bytes, X.same.trans (hsame.setVm s.vm)⟩,
      ⟨g, mk, s₂, L, E, ce, rfl, rfl, hx, hce, hcv, hcl, rfl, hL, rfl, rfl⟩, ?_⟩
    show Steps p.tables e below _ (((({ U with heap := s₂.heap, slotsUsed := s₂.slotsUsed } : State).setVm s₂.vm).setTop g).pushFrame (.throwing q))
    rw [← hs₂]
    exact hsteps
end
variable {p : Program} {l : Launch} {e : Env} {R : Room} {s : State} {m : MethodId} {args : Array Value} {below : List Frame} {meth : Method} {c : Code} {T : State} {H : Heap} {locs : List Loc} {cells slots : Nat}
theorem vx_callVX (X : Stand p l e R s m args below meth c T locs cells slots) (hexec : p.tables.exec = Jvm.exec) {own C : String} {index : Nat} {y : MethodName} {bytes : ByteArray} {maxL : Nat} {ret : Option FieldType} {hh : List (Nat × Nat × Nat × Nat)}
    (hown : s.vm.findClass own = some m.cls) (hlink : (Cond.methodLink own index y).before args s = true) (hinst : (Cond.instanceMethod y).before args s = true) (hsel : (Cond.selects C y y).before args s = true)
    (hcode : (Cond.codeWith y bytes maxL ret hh).before args s = true) (hy : y.cls ≠ "java/lang/invoke/MethodHandle" ∧ y.cls ≠ "java/lang/invoke/VarHandle")
    {W9 : Nat} {Pre : Pt → Array Value → Prop} {Post : Pt → Array Value → Option Value → Pt → Prop} {PostX : Pt → Array Value → Addr → Pt → Prop} (hK : vx_Back l R p e below s args y 3 W9 Pre Post PostX)
    {b : Addr} {cellB : Cell} (hcell : T.heap[b]? = some cellB) (hobj : cellB.vm.isStatics = false) (hcls : s.vm.findClass C = some cellB.cls)
    {g : JFrame} (hg : g.method = m) (hsize : g.locals.size = c.maxLocals) {argsL rest : List Value} (hlen : ∀ sig, parseMethodDescriptor y.desc = some sig → argsL.length = sig.parameters.length)
    (hstack : g.stack = argsL.reverse ++ .ref b :: rest) (hW : 2 * g.monitorRoom + (rest.map fun v => v.category).sum ≤ W9) (hdg : decode c.code g.pc = .ok (.invokevirtual index, 3))
    (hpre : ∀ vm₁, s.WarmedH vm₁ → Pre ⟨T.setVm vm₁, locs, cells, slots⟩ (Value.ref b :: argsL).toArray) :
    (∃ (v : Option Value) (vm₁ : Vm) (B : Pt), s.WarmedH vm₁ ∧ Stand p l e R s m args below meth c B.U B.locs B.cells B.slots ∧ Post ⟨T.setVm vm₁, locs, cells, slots⟩ (Value.ref b :: argsL).toArray v B ∧
      ∀ target, Steps p.tables e below (B.U.setTop { g with pc := g.pc + 3, stack := v.toList ++ rest }) target → Steps p.tables e below (T.setTop g) target) ∨
    (∃ (q : Addr) (vm₁ : Vm) (B : Pt), s.WarmedH vm₁ ∧ Stand p l e R s m args below meth c B.U B.locs B.cells B.slots ∧ PostX ⟨T.setVm vm₁, locs, cells, slots⟩ (Value.ref b :: argsL).toArray q B ∧
      Steps p.tables e below (T.setTop g) ((B.U.setTop { g with stack := rest }).pushFrame (.throwing q))) := by
  obtain ⟨mk, methM, hnamed, hmethM, hstM, habM⟩ := Cond.instanceMethod_spec hinst
  obtain ⟨m8, methM', cM, hn8, hmethM', -, -, -, -, -, -, hsigM⟩ := Cond.codeWith_spec hcode
  cases Option.some.inj (hn8.symm.trans hnamed)
  cases hmethM.symm.trans hmethM'
  obtain ⟨c2, r2, m2, q1, q2, q3, q4, kP, hkP, hkPi⟩ := Cond.selects_spec hsel
  cases hcls.symm.trans q1
  cases (State.methodFound?_of_named hnamed hy).symm.trans q2
  cases hnamed.symm.trans q3
  have hselP : selectMethod e.platform s.vm cellB.cls mk = .method mk := by rw [Launch.admits_selectMethod X.admits]; exact q4
  obtain ⟨vm₁, X₁, hstep₁⟩ := X.invokevirtual hexec hown hlink hnamed hmethM hstM hkP hkPi hy (a := b) (cell := cellB) hcell
    (fun z h => by rw [h] at hobj; cases hobj) hselP hmethM habM hkP hkPi (g := g) hg (argsL := argsL) (rest := rest) (hlen _ hsigM) hstack hdg
  rcases hK m meth c ⟨T.setVm vm₁, locs, cells, slots⟩ { g with stack := rest } (.invokevirtual index) mk (Value.ref b :: argsL).toArray X₁ hg hsize hdg hW (X₁.named hnamed) (hpre vm₁ X₁.warmed) with ⟨v, B, X', hpost, hsteps⟩ | ⟨q, B, X', hpost, hsteps⟩
  · exact Or.inl ⟨v, vm₁, B, X₁.warmed, X', hpost, fun target h => hstep₁ _ fun acts => by rw [doInvoke_state]; exact hsteps.trans h⟩
  · exact Or.inr ⟨q, vm₁, B, X₁.warmed, X', hpost, hstep₁ _ fun acts => by rw [doInvoke_state]; exact hsteps⟩
theorem vx_callSX (X : Stand p l e R s m args below meth c T locs cells slots) (hexec : p.tables.exec = Jvm.exec) {own : String} {index : Nat} {y : MethodName} {bytes : ByteArray} {maxL : Nat} {ret : Option FieldType} {hh : List (Nat × Nat × Nat × Nat)}
    (hown : s.vm.findClass own = some m.cls) (hlink : (Cond.methodLink own index y).before args s = true) (hstat : (Cond.static y).before args s = true) (hinit : (Cond.initialized y.cls).before args s = true)
    (hcode : (Cond.codeWith y bytes maxL ret hh).before args s = true) (hy : y.cls ≠ "java/lang/invoke/MethodHandle" ∧ y.cls ≠ "java/lang/invoke/VarHandle")
    {W9 : Nat} {Pre : Pt → Array Value → Prop} {Post : Pt → Array Value → Option Value → Pt → Prop} {PostX : Pt → Array Value → Addr → Pt → Prop} (hK : vx_Back l R p e below s args y 3 W9 Pre Post PostX)
    {g : JFrame} (hg : g.method = m) (hsize : g.locals.size = c.maxLocals) {argsL rest : List Value} (hlen : ∀ sig, parseMethodDescriptor y.desc = some sig → argsL.length = sig.parameters.length)
    (hstack : g.stack = argsL.reverse ++ rest) (hW : 2 * g.monitorRoom + (rest.map fun v => v.category).sum ≤ W9) (hdg : decode c.code g.pc = .ok (.invokestatic index, 3))
    (hpre : ∀ vm₁, s.WarmedH vm₁ → Pre ⟨T.setVm vm₁, locs, cells, slots⟩ argsL.toArray) :
    (∃ (v : Option Value) (vm₁ : Vm) (B : Pt), s.WarmedH vm₁ ∧ Stand p l e R s m args below meth c B.U B.locs B.cells B.slots ∧ Post ⟨T.setVm vm₁, locs, cells, slots⟩ argsL.toArray v B ∧
      ∀ target, Steps p.tables e below (B.U.setTop { g with pc := g.pc + 3, stack := v.toList ++ rest }) target → Steps p.tables e below (T.setTop g) target) ∨
    (∃ (q : Addr) (vm₁ : Vm) (B : Pt), s.WarmedH vm₁ ∧ Stand p l e R s m args below meth c B.U B.locs B.cells B.slots ∧ PostX ⟨T.setVm vm₁, locs, cells, slots⟩ argsL.toArray q B ∧
      Steps p.tables e below (T.setTop g) ((B.U.setTop { g with stack := rest }).pushFrame (.throwing q))) := by
  obtain ⟨mk, methM, cM, hnamed, hmethM, -, -, -, -, -, -, hsigM⟩ := Cond.codeWith_spec hcode
  have hstatic : methM.isStatic = true := Cond.static_spec hnamed hmethM hstat
  obtain ⟨kP, hkP, -⟩ := className_of_methodNamed hnamed
  have hinitP : kP.init = .initialized := Cond.initialized_spec (findClass_of_methodNamed hnamed) hkP hinit
  obtain ⟨vm₁, X₁, hstep₁⟩ := X.invokestatic hexec hown hlink hnamed hmethM hstatic hkP hinitP hy (g := g) hg (argsL := argsL) (rest := rest) (hlen _ hsigM) hstack hdg
  rcases hK m meth c ⟨T.setVm vm₁, locs, cells, slots⟩ { g with stack := rest } (.invokestatic index) mk argsL.toArray X₁ hg hsize hdg hW (X₁.named hnamed) (hpre vm₁ X₁.warmed) with ⟨v, B, X', hpost, hsteps⟩ | ⟨q, B, X', hpost, hsteps⟩
  · exact Or.inl ⟨v, vm₁, B, X₁.warmed, X', hpost, fun target h => hstep₁ _ fun acts => by rw [doInvoke_state]; exact hsteps.trans h⟩
  · exact Or.inr ⟨q, vm₁, B, X₁.warmed, X', hpost, hstep₁ _ fun acts => by rw [doInvoke_state]; exact hsteps⟩
theorem vx_callVW (X : Stand p l e R s m args below meth c T locs cells slots) (hexec : p.tables.exec = Jvm.exec) {own C : String} {index : Nat} {y : MethodName} {bytes : ByteArray} {maxL : Nat} {ret : Option FieldType} {hh : List (Nat × Nat × Nat × Nat)}
    (hown : s.vm.findClass own = some m.cls) (hlink : (Cond.methodLink own index y).before args s = true) (hinst : (Cond.instanceMethod y).before args s = true) (hsel : (Cond.selects C y y).before args s = true)
    (hcode : (Cond.codeWith y bytes maxL ret hh).before args s = true) (hy : y.cls ≠ "java/lang/invoke/MethodHandle" ∧ y.cls ≠ "java/lang/invoke/VarHandle")
    {W9 : Nat} {Pre : Pt → Array Value → Prop} {Post : Pt → Array Value → Option Value → Pt → Prop} (hK : Back l R p e below s args y 3 W9 Pre Post)
    {b : Addr} {cellB : Cell} (hcell : T.heap[b]? = some cellB) (hobj : cellB.vm.isStatics = false) (hcls : s.vm.findClass C = some cellB.cls)
    {g : JFrame} (hg : g.method = m) (hsize : g.locals.size = c.maxLocals) {argsL rest : List Value} (hlen : ∀ sig, parseMethodDescriptor y.desc = some sig → argsL.length = sig.parameters.length)
    (hstack : g.stack = argsL.reverse ++ .ref b :: rest) (hW : 2 * g.monitorRoom + (rest.map fun v => v.category).sum ≤ W9) (hdg : decode c.code g.pc = .ok (.invokevirtual index, 3))
    (hpre : ∀ vm₁, s.WarmedH vm₁ → Pre ⟨T.setVm vm₁, locs, cells, slots⟩ (Value.ref b :: argsL).toArray) :
    ∃ (v : Option Value) (vm₁ : Vm) (B : Pt), s.WarmedH vm₁ ∧ Stand p l e R s m args below meth c B.U B.locs B.cells B.slots ∧ Post ⟨T.setVm vm₁, locs, cells, slots⟩ (Value.ref b :: argsL).toArray v B ∧
      ∀ target, Steps p.tables e below (B.U.setTop { g with pc := g.pc + 3, stack := v.toList ++ rest }) target → Steps p.tables e below (T.setTop g) target := by
  obtain ⟨mk, methM, hnamed, hmethM, hstM, habM⟩ := Cond.instanceMethod_spec hinst
  obtain ⟨m8, methM', cM, hn8, hmethM', -, -, -, -, -, -, hsigM⟩ := Cond.codeWith_spec hcode
  cases Option.some.inj (hn8.symm.trans hnamed)
  cases hmethM.symm.trans hmethM'
  obtain ⟨c2, r2, m2, q1, q2, q3, q4, kP, hkP, hkPi⟩ := Cond.selects_spec hsel
  cases hcls.symm.trans q1
  cases (State.methodFound?_of_named hnamed hy).symm.trans q2
  cases hnamed.symm.trans q3
  have hselP : selectMethod e.platform s.vm cellB.cls mk = .method mk := by rw [Launch.admits_selectMethod X.admits]; exact q4
  obtain ⟨vm₁, X₁, hstep₁⟩ := X.invokevirtual hexec hown hlink hnamed hmethM hstM hkP hkPi hy (a := b) (cell := cellB) hcell
    (fun z h => by rw [h] at hobj; cases hobj) hselP hmethM habM hkP hkPi (g := g) hg (argsL := argsL) (rest := rest) (hlen _ hsigM) hstack hdg
  obtain ⟨v, B, X', hpost, hsteps⟩ := hK m meth c ⟨T.setVm vm₁, locs, cells, slots⟩ { g with stack := rest } (.invokevirtual index) mk (Value.ref b :: argsL).toArray X₁ hg hsize hdg hW (X₁.named hnamed) (hpre vm₁ X₁.warmed)
  exact ⟨v, vm₁, B, X₁.warmed, X', hpost, fun target h => hstep₁ _ fun acts => by rw [doInvoke_state]; exact hsteps.trans h⟩
abbrev vx_CVW (R : Room) (s : State) (args : Array Value) (own C : String) (index : Nat) (y : MethodName) (bytes : ByteArray) (maxL : Nat) (ret : Option FieldType) (hh : List (Nat × Nat × Nat × Nat)) (ws : List Cond) (rm : Room) (mc ms n : Nat) : Prop :=
  (rm.cells = mc ∧ rm.slots = ms ∧ rm.frames + 1 ≤ R.frames ∧ 8 + (maxL + 11) + rm.locals ≤ R.locals ∧ (∀ w ∈ ws, ∀ (a' : Array Value) (U : State), s.WarmedH U.vm → w.before a' U = true) ∧ Cond.codeWith y bytes maxL ret hh ∈ ws) ∧
  (Cond.codeWith y bytes maxL ret hh).before args s = true ∧ (Cond.initialized y.cls).before args s = true ∧ (y.cls ≠ "java/lang/invoke/MethodHandle" ∧ y.cls ≠ "java/lang/invoke/VarHandle") ∧
  (∀ sig, parseMethodDescriptor y.desc = some sig → n = sig.parameters.length) ∧ (Cond.methodLink own index y).before args s = true ∧ (Cond.instanceMethod y).before args s = true ∧ (Cond.selects C y y).before args s = true
theorem vx_cwVW {own C : String} {index maxL mc ms : Nat} {y : MethodName} {bytes : ByteArray} {ret : Option FieldType} {hh : List (Nat × Nat × Nat × Nat)} {Ts ws ws' : List Cond} {rm : Room} (n : Nat) (ht : ∀ w ∈ Ts, w.before args s = true) (hT : GoodIn Ts (wsV own index C y ws)) (hw : ws = Cond.codeWith y bytes maxL ret hh :: ws') (hrc : rm.cells = mc) (hrs : rm.slots = ms)
    (hd : y.cls = C ∧ y.cls ≠ "java/lang/invoke/MethodHandle" ∧ y.cls ≠ "java/lang/invoke/VarHandle" ∧ (parseMethodDescriptor y.desc).map (fun d => d.parameters.length) = some n) (hR : rm.frames + 1 ≤ R.frames ∧ 8 + (maxL + 11) + rm.locals ≤ R.locals) :
    vx_CVW R s args own C index y bytes maxL ret hh ws rm mc ms n := by
  obtain ⟨hC, hd⟩ := hd
  subst hC
  have ok : ∀ w ∈ wsV own index y.cls y ws, w.before args s = true := fun w h => ht w (hT w h).1
  have hG : GoodIn Ts ws := fun w h => hT w (by unfold wsV; exact List.mem_append_right _ h)
  have hc : Cond.codeWith y bytes maxL ret hh ∈ ws := by rw [hw]; exact List.mem_cons_self
  refine ⟨⟨hrc, hrs, hR.1, hR.2, pay_in ht hG, hc⟩, ht _ (hG _ hc).1, ok _ (by simp [wsV]), ⟨hd.1, hd.2.1⟩, fun sig h => ?_, ok _ (by simp [wsV]), ok _ (by simp [wsV]), ok _ (by simp [wsV])⟩
  have h2 := hd.2.2
  rw [h] at h2
  exact (Option.some.inj h2).symm
theorem vx_runVW {y : MethodName} {bytes cc : ByteArray} {maxL nL mc ms n index : Nat} {ret : Option FieldType} {hh : List (Nat × Nat × Nat × Nat)} {ws : List Cond} {rm : Room} {Pc : Array Value → State → Prop} {Qc : Array Value → State → Outcome → State → Prop} {free : Addr → Prop} {Ts : List Cond} {own C : String} {b : Addr} {As rest : List Value} {g : JFrame}
    (S : CallFix p m c cc nL s args Ts own) (hM : Met l y ws rm Pc Qc mc ms free) (cw : vx_CVW R s args own C index y bytes maxL ret hh ws rm mc ms n) (hp : PreV s H C b Pc As)
    (hg : g.method = m) (hn : As.length = n) (hsize : g.locals.size = nL) (hstack : g.stack = As.reverse ++ .ref b :: rest) (hW : 2 * g.monitorRoom + (rest.map fun v => v.category).sum ≤ 8) (hdg : decode cc g.pc = .ok (.invokevirtual index, 3)) (hf : cells + mc ≤ R.cells ∧ slots + ms ≤ R.slots) :
    va_Run p l e R s m args below meth c H locs cells slots mc ms g rest (Qc (Value.ref b :: As).toArray) free := by
  obtain ⟨⟨hrc, hrs, hfr, hlo, hws, hcw⟩, hcode, hini, hy, hlen, hl, hin, hse⟩ := cw
  have hK : Back l R p e below s args y 3 8 (PreOf R mc ms Pc) (PostOf Qc mc ms free) := va_backW (hh := hh) (bytes := bytes) (maxL := maxL) (ret := ret) hM hp.1 hrc hrs hfr hlo hws hcw (fun a' U hW => word_at hW (Or.inl (by first | rfl | simp [Cond.onTables, Cond.keeps, Cond.steady])) hini)
  obtain ⟨hx, hb, hml, ho, -⟩ := S
  obtain ⟨-, ⟨cellB, hcB, hoB, hclB⟩, hPc⟩ := hp
  intro T hT X
  obtain ⟨v, vm₁, ⟨U', l2, c2, s2⟩, hW₁, X', ⟨g', mk, t, L, e1, e2, hq, h1, hL, h2, h3⟩, st⟩ := vx_callVW X hx (C := C) (hh := hh) (bytes := bytes) (maxL := maxL) (ret := ret) ho hl hin hse hcode hy hK (by rw [hT]; exact hcB) hoB hclB hg (hsize.trans hml.symm) (argsL := As) (rest := rest) (fun sig h => hn.trans (hlen sig h)) hstack hW (by rw [hb]; exact hdg)
    (fun vm₁ hW₁ => ⟨hf.1, hf.2, hPc (T.setVm vm₁) hT hW₁⟩)
  dsimp only [Pt.U, Pt.locs, Pt.cells, Pt.slots] at X' e1 e2 h1 h2 h3 st
  subst h1; subst h2; subst h3
  exact ⟨v, (T.setVm vm₁).calling g' mk (Value.ref b :: As).toArray, t, U', L, hT, X', hL, e1, e2, hq, st⟩
section
variable {y : MethodName} {bytes cc : ByteArray} {maxL nL mc ms n index : Nat} {ret : Option FieldType} {ws : List Cond} {rm : Room} {Pc : Array Value → State → Prop} {Qc : Array Value → State → Outcome → State → Prop} {XC : String → State → State → Prop} {free : Addr → Prop} {Ts : List Cond} {own C : String} {b : Addr} {As rest : List Value} {g : JFrame}
theorem vx_runVX {hh : List (Nat × Nat × Nat × Nat)} (S : CallFix p m c cc nL s args Ts own) (hM : vx_Met l y ws rm Pc Qc XC mc ms free) (cw : vx_CVW R s args own C index y bytes maxL ret hh ws rm mc ms n) (hp : PreV s H C b Pc As)
    (hg : g.method = m) (hn : As.length = n) (hsize : g.locals.size = nL) (hstack : g.stack = As.reverse ++ .ref b :: rest) (hW : 2 * g.monitorRoom + (rest.map fun v => v.category).sum ≤ 8) (hdg : decode cc g.pc = .ok (.invokevirtual index, 3)) (hf : cells + mc ≤ R.cells ∧ slots + ms ≤ R.slots) :
    vx_Run p l e R s m args below meth c H locs cells slots mc ms g rest (Qc (Value.ref b :: As).toArray) XC free := by
  obtain ⟨⟨hrc, hrs, hfr, hlo, hws, hcw⟩, hcode, hini, hy, hlen, hl, hin, hse⟩ := cw
  have hK : vx_Back l R p e below s args y 3 8 (PreOf R mc ms Pc) (PostOf Qc mc ms free) (vx_Post XC mc ms free) := vx_backW (hh := hh) (bytes := bytes) (maxL := maxL) (ret := ret) hM hp.1 hrc hrs hfr hlo hws hcw (fun a' U hW => word_at hW (Or.inl (by first | rfl | simp [Cond.onTables, Cond.keeps, Cond.steady])) hini)
  obtain ⟨hx, hb, hml, ho, -⟩ := S
  obtain ⟨-, ⟨cellB, hcB, hoB, hclB⟩, hPc⟩ := hp
  intro T hT X
  rcases vx_callVX X hx (C := C) (hh := hh) (bytes := bytes) (maxL := maxL) (ret := ret) ho hl hin hse hcode hy hK (by rw [hT]; exact hcB) hoB hclB hg (hsize.trans hml.symm) (argsL := As) (rest := rest) (fun sig h => hn.trans (hlen sig h)) hstack hW (by rw [hb]; exact hdg)
    (fun vm₁ hW₁ => ⟨hf.1, hf.2, hPc (T.setVm vm₁) hT hW₁⟩) with ⟨v, vm₁, ⟨U', l2, c2, s2⟩, hW₁, X', ⟨g', mk, t, L, e1, e2, hq, h1, hL, h2, h3⟩, st⟩ | ⟨q, vm₁, ⟨U', l2, c2, s2⟩, hW₁, X', ⟨g', mk, t, L, E, ce, e1, e2, hq, hce, hcv, hcl, h1, hL, h2, h3⟩, st⟩
  · dsimp only [Pt.U, Pt.locs, Pt.cells, Pt.slots] at X' e1 e2 h1 h2 h3 st
    subst h1; subst h2; subst h3
    exact Or.inl ⟨v, (T.setVm vm₁).calling g' mk (Value.ref b :: As).toArray, t, U', L, hT, X', hL, e1, e2, hq, st⟩
  · dsimp only [Pt.U, Pt.locs, Pt.cells, Pt.slots] at X' e1 e2 h1 h2 h3 st hcl
    subst h1; subst h2; subst h3
    exact Or.inr ⟨q, (T.setVm vm₁).calling g' mk (Value.ref b :: As).toArray, t, U', L, E, ce, hT, X', hL, e1, e2, hq, hce, hcv, vx_cls hW₁ hcl, st⟩
theorem vx_runSX {hh : List (Nat × Nat × Nat × Nat)} (S : CallFix p m c cc nL s args Ts own) (hM : vx_Met l y ws rm Pc Qc XC mc ms free) (cw : vx_CSW R s args own index y bytes maxL ret hh ws rm mc ms n) (hp : PreS s H Pc As)
    (hg : g.method = m) (hn : As.length = n) (hsize : g.locals.size = nL) (hstack : g.stack = As.reverse ++ rest) (hW : 2 * g.monitorRoom + (rest.map fun v => v.category).sum ≤ 8) (hdg : decode cc g.pc = .ok (.invokestatic index, 3)) (hf : cells + mc ≤ R.cells ∧ slots + ms ≤ R.slots) :
    vx_Run p l e R s m args below meth c H locs cells slots mc ms g rest (Qc As.toArray) XC free := by
  obtain ⟨⟨hrc, hrs, hfr, hlo, hws, hcw⟩, hcode, hini, hy, hlen, hl, hstt⟩ := cw
  have hK : vx_Back l R p e below s args y 3 8 (PreOf R mc ms Pc) (PostOf Qc mc ms free) (vx_Post XC mc ms free) := vx_backW (hh := hh) (bytes := bytes) (maxL := maxL) (ret := ret) hM hp.1 hrc hrs hfr hlo hws hcw (fun a' U hW => word_at hW (Or.inl (by first | rfl | simp [Cond.onTables, Cond.keeps, Cond.steady])) hini)
  obtain ⟨hx, hb, hml, ho, -⟩ := S
  intro T hT X
  rcases vx_callSX X hx (hh := hh) (bytes := bytes) (maxL := maxL) (ret := ret) ho hl hstt hini hcode hy hK hg (hsize.trans hml.symm) (argsL := As) (rest := rest) (fun sig h => hn.trans (hlen sig h)) hstack hW (by rw [hb]; exact hdg)
    (fun vm₁ hW₁ => ⟨hf.1, hf.2, hp.2 (T.setVm vm₁) hT hW₁⟩) with ⟨v, vm₁, ⟨U', l2, c2, s2⟩, hW₁, X', ⟨g', mk, t, L, e1, e2, hq, h1, hL, h2, h3⟩, st⟩ | ⟨q, vm₁, ⟨U', l2, c2, s2⟩, hW₁, X', ⟨g', mk, t, L, E, ce, e1, e2, hq, hce, hcv, hcl, h1, hL, h2, h3⟩, st⟩
  · dsimp only [Pt.U, Pt.locs, Pt.cells, Pt.slots] at X' e1 e2 h1 h2 h3 st
    subst h1; subst h2; subst h3
    exact Or.inl ⟨v, (T.setVm vm₁).calling g' mk As.toArray, t, U', L, hT, X', hL, e1, e2, hq, st⟩
  · dsimp only [Pt.U, Pt.locs, Pt.cells, Pt.slots] at X' e1 e2 h1 h2 h3 st hcl
    subst h1; subst h2; subst h3
    exact Or.inr ⟨q, (T.setVm vm₁).calling g' mk As.toArray, t, U', L, E, ce, hT, X', hL, e1, e2, hq, hce, hcv, vx_cls hW₁ hcl, st⟩
end
end VXH
theorem vx_ofWH {l : Launch} {y : MethodName} {ws ws' : List Cond} {rm : Room} {Pc : Array Value → State → Prop} {Qc : Array Value → State → Outcome → State → Prop} {XC : String → State → State → Prop} {mc ms : Nat} {free : Addr → Prop} {cc : ByteArray} {maxL : Nat} {ret : Option FieldType} {hh : List (Nat × Nat × Nat × Nat)}
    (hy : plainName y.cls = true) (hw : ws = Cond.codeWith y cc maxL ret hh :: ws')
    (body : ∀ p e s m args below meth c s₁, BodyLoose p l y (headSpec ws rm) cc maxL ret e s m args below meth c s₁ → c.maxLocals = maxL → Pc args s →
      W p l e (headSpec ws rm).room s m args below meth c s.heap [] 0 0 (vx_MQ below Qc XC args s mc ms free) (entryFrame m args maxL)) : vx_Met l y ws rm Pc Qc XC mc ms free := by
  refine MetFree.of_bodyS (code := cc) (maxLocals := maxL) (ret := ret) hy ?_ ?_
  · intro args s m h hn
    obtain ⟨m9, meth, c, hn9, h1, h2, h3, h4, -, h5, h6, -⟩ := Cond.codeWith_spec (atoms_spec (ws := ws) h _ (by rw [hw]; exact List.mem_cons_self))
    cases hn.symm.trans hn9
    exact ⟨meth, c, h1, h2, h3, h4, h5, h6⟩
  · intro p e s m args below meth c s₁ B hml hP _
    have hh0 : s₁.heap = s.heap := by rw [B.state]; rfl
    obtain ⟨t, a1, o, b1, b2, b3⟩ := body p e s m args below meth c s₁ B hml hP s₁ hh0 (Stand.of_body B)
    exact ⟨t, o, a1, b1, b2, b3⟩
/-! ===== END ===== -/
end
section
/-! ===== BEGIN printed: names, fields, word lists, decode rows ===== -/
def RX0 : String := "TypingCoach$Board"
def TX0 : u_T := fun k => match k with
  | 0 => ("TypingCoach$Board", "placeOfLetter", "LTypingCoach$Cells;", true)
  | _ => ("TypingCoach$Board", "letterOfPlace", "LTypingCoach$Cells;", true)
def tyX0 : Nat → FieldType := fun k => match k with
  | 0 => .object "TypingCoach$Cells"
  | _ => .object "TypingCoach$Cells"
abbrev wsX00 : List Cond := u_ws RX0 TX0 2
theorem nmX0 : ∀ a, a < 2 → ∀ b, b < 2 → a ≠ b → (TX0 a).2.1 ≠ (TX0 b).2.1 := by decide +kernel
theorem tyX0_ok : ∀ k, k < 2 → parseFieldDescriptor (TX0 k).2.2.1 = some (tyX0 k) := by decide +kernel
abbrev cX0_init : ByteArray := prog_2_method_1_code
def yX0_init : MethodName := ⟨RX0, "<init>", "()V"⟩
abbrev cX0_move : ByteArray := prog_2_method_2_code
def yX0_move : MethodName := ⟨RX0, "move", "(II)I"⟩
abbrev cX0_fingerOf : ByteArray := prog_2_method_3_code
def yX0_fingerOf : MethodName := ⟨RX0, "fingerOf", "(I)I"⟩
abbrev cX0_touch : ByteArray := prog_2_method_4_code
def yX0_touch : MethodName := ⟨RX0, "touch", "(II)Z"⟩
abbrev cX0_mirrorOf : ByteArray := prog_2_method_5_code
def yX0_mirrorOf : MethodName := ⟨RX0, "mirrorOf", "(I)I"⟩
abbrev cX0_columnOf : ByteArray := prog_2_method_6_code
def yX0_columnOf : MethodName := ⟨RX0, "columnOf", "(I)I"⟩
abbrev cX0_rowOf : ByteArray := prog_2_method_7_code
def yX0_rowOf : MethodName := ⟨RX0, "rowOf", "(I)I"⟩
def RX1 : String := "TypingCoach$Cells"
def TX1 : u_T := fun k => match k with
  | _ => ("TypingCoach$Cells", "values", "[I", true)
def tyX1 : Nat → FieldType := fun k => match k with
  | _ => .array .int
abbrev wsX10 : List Cond := u_ws RX1 TX1 1
theorem nmX1 : ∀ a, a < 1 → ∀ b, b < 1 → a ≠ b → (TX1 a).2.1 ≠ (TX1 b).2.1 := by decide +kernel
theorem tyX1_ok : ∀ k, k < 1 → parseFieldDescriptor (TX1 k).2.2.1 = some (tyX1 k) := by decide +kernel
abbrev cX1_init : ByteArray := prog_3_method_1_code
def yX1_init : MethodName := ⟨RX1, "<init>", "(II)V"⟩
abbrev cX1_at : ByteArray := prog_3_method_2_code
def yX1_at : MethodName := ⟨RX1, "at", "(I)I"⟩
abbrev cX1_set : ByteArray := prog_3_method_3_code
def yX1_set : MethodName := ⟨RX1, "set", "(II)V"⟩
abbrev cX1_add : ByteArray := prog_3_method_4_code
def yX1_add : MethodName := ⟨RX1, "add", "(II)V"⟩
def RX2 : String := "TypingCoach$Figures"
def TX2 : u_T := fun k => match k with
  | 0 => ("TypingCoach$Figures", "counts", "LTypingCoach$Cells;", true)
  | 1 => ("TypingCoach$Figures", "times", "LTypingCoach$Cells;", true)
  | 2 => ("TypingCoach$Figures", "shares", "LTypingCoach$Cells;", true)
  | 3 => ("TypingCoach$Figures", "pairTimes", "LTypingCoach$Cells;", true)
  | 4 => ("TypingCoach$Figures", "wishedTime", "I", false)
  | _ => ("TypingCoach$Figures", "wishedShare", "I", false)
def tyX2 : Nat → FieldType := fun k => match k with
  | 0 => .object "TypingCoach$Cells"
  | 1 => .object "TypingCoach$Cells"
  | 2 => .object "TypingCoach$Cells"
  | 3 => .object "TypingCoach$Cells"
  | 4 => .int
  | _ => .int
abbrev wsX20 : List Cond := u_ws RX2 TX2 6
theorem nmX2 : ∀ a, a < 6 → ∀ b, b < 6 → a ≠ b → (TX2 a).2.1 ≠ (TX2 b).2.1 := by decide +kernel
theorem tyX2_ok : ∀ k, k < 6 → parseFieldDescriptor (TX2 k).2.2.1 = some (tyX2 k) := by decide +kernel
abbrev cX2_init : ByteArray := prog_4_method_1_code
def yX2_init : MethodName := ⟨RX2, "<init>", "()V"⟩
abbrev cX2_learn : ByteArray := prog_4_method_2_code
def yX2_learn : MethodName := ⟨RX2, "learn", "(IIZ)V"⟩
abbrev cX2_learnPair : ByteArray := prog_4_method_3_code
def yX2_learnPair : MethodName := ⟨RX2, "learnPair", "(III)V"⟩
abbrev cX2_timeOfPair : ByteArray := prog_4_method_4_code
def yX2_timeOfPair : MethodName := ⟨RX2, "timeOfPair", "(II)I"⟩
abbrev cX2_fulfilsWish : ByteArray := prog_4_method_5_code
def yX2_fulfilsWish : MethodName := ⟨RX2, "fulfilsWish", "(I)Z"⟩
abbrev cX2_mustGoOut : ByteArray := prog_4_method_6_code
def yX2_mustGoOut : MethodName := ⟨RX2, "mustGoOut", "(I)Z"⟩
abbrev cX2_isWeaker : ByteArray := prog_4_method_7_code
def yX2_isWeaker : MethodName := ⟨RX2, "isWeaker", "(II)Z"⟩
abbrev cX2_forget : ByteArray := prog_4_method_8_code
def yX2_forget : MethodName := ⟨RX2, "forget", "(I)V"⟩
abbrev cX2_halveCounts : ByteArray := prog_4_method_9_code
def yX2_halveCounts : MethodName := ⟨RX2, "halveCounts", "()V"⟩
abbrev cX2_pairOf : ByteArray := prog_4_method_10_code
def yX2_pairOf : MethodName := ⟨RX2, "pairOf", "(II)I"⟩
abbrev cX2_aged : ByteArray := prog_4_method_11_code
def yX2_aged : MethodName := ⟨RX2, "aged", "(II)I"⟩
def RX3 : String := "TypingCoach$Lesson"
def TX3 : u_T := fun k => match k with
  | 0 => ("TypingCoach$Lesson", "letters", "LTypingCoach$Cells;", true)
  | 1 => ("TypingCoach$Lesson", "typed", "LTypingCoach$Cells;", true)
  | 2 => ("TypingCoach$Lesson", "size", "I", false)
  | 3 => ("TypingCoach$Lesson", "position", "I", false)
  | 4 => ("TypingCoach$Lesson", "mendedStrokes", "I", false)
  | _ => ("TypingCoach$Lesson", "millisInAll", "I", false)
def tyX3 : Nat → FieldType := fun k => match k with
  | 0 => .object "TypingCoach$Cells"
  | 1 => .object "TypingCoach$Cells"
  | 2 => .int
  | 3 => .int
  | 4 => .int
  | _ => .int
abbrev wsX30 : List Cond := u_ws RX3 TX3 6
theorem nmX3 : ∀ a, a < 6 → ∀ b, b < 6 → a ≠ b → (TX3 a).2.1 ≠ (TX3 b).2.1 := by decide +kernel
theorem tyX3_ok : ∀ k, k < 6 → parseFieldDescriptor (TX3 k).2.2.1 = some (tyX3 k) := by decide +kernel
abbrev cX3_init : ByteArray := prog_5_method_1_code
def yX3_init : MethodName := ⟨RX3, "<init>", "()V"⟩
abbrev cX3_isFull : ByteArray := prog_5_method_2_code
def yX3_isFull : MethodName := ⟨RX3, "isFull", "()Z"⟩
abbrev cX3_append : ByteArray := prog_5_method_3_code
def yX3_append : MethodName := ⟨RX3, "append", "(I)V"⟩
abbrev cX3_letterAt : ByteArray := prog_5_method_4_code
def yX3_letterAt : MethodName := ⟨RX3, "letterAt", "(I)I"⟩
abbrev cX3_typedBefore : ByteArray := prog_5_method_5_code
def yX3_typedBefore : MethodName := ⟨RX3, "typedBefore", "()I"⟩
abbrev cX3_type : ByteArray := prog_5_method_6_code
def yX3_type : MethodName := ⟨RX3, "type", "(II)V"⟩
abbrev cX3_goBack : ByteArray := prog_5_method_7_code
def yX3_goBack : MethodName := ⟨RX3, "goBack", "(I)V"⟩
abbrev cX3_speedSoFar : ByteArray := prog_5_method_8_code
def yX3_speedSoFar : MethodName := ⟨RX3, "speedSoFar", "()I"⟩
abbrev cX3_beginAnew : ByteArray := prog_5_method_9_code
def yX3_beginAnew : MethodName := ⟨RX3, "beginAnew", "()V"⟩
abbrev cX3_rightStrokes : ByteArray := prog_5_method_10_code
def yX3_rightStrokes : MethodName := ⟨RX3, "rightStrokes", "()I"⟩
def RX4 : String := "TypingCoach$LettersIn"
def TX4 : u_T := fun k => match k with
  | 0 => ("TypingCoach$LettersIn", "in", "[Z", true)
  | _ => ("TypingCoach$LettersIn", "figures", "LTypingCoach$Figures;", true)
def tyX4 : Nat → FieldType := fun k => match k with
  | 0 => .array .boolean
  | _ => .object "TypingCoach$Figures"
abbrev wsX40 : List Cond := u_ws RX4 TX4 2
theorem nmX4 : ∀ a, a < 2 → ∀ b, b < 2 → a ≠ b → (TX4 a).2.1 ≠ (TX4 b).2.1 := by decide +kernel
theorem tyX4_ok : ∀ k, k < 2 → parseFieldDescriptor (TX4 k).2.2.1 = some (tyX4 k) := by decide +kernel
abbrev cX4_init : ByteArray := prog_6_method_1_code
def yX4_init : MethodName := ⟨RX4, "<init>", "(LTypingCoach$Figures;)V"⟩
abbrev cX4_contains : ByteArray := prog_6_method_2_code
def yX4_contains : MethodName := ⟨RX4, "contains", "(I)Z"⟩
abbrev cX4_weakestOfAll : ByteArray := prog_6_method_3_code
def yX4_weakestOfAll : MethodName := ⟨RX4, "weakestOfAll", "()I"⟩
abbrev cX4_slowestBehind : ByteArray := prog_6_method_4_code
def yX4_slowestBehind : MethodName := ⟨RX4, "slowestBehind", "(I)I"⟩
abbrev cX4_review : ByteArray := prog_6_method_5_code
def yX4_review : MethodName := ⟨RX4, "review", "()I"⟩
abbrev cX4_takeOut : ByteArray := prog_6_method_6_code
def yX4_takeOut : MethodName := ⟨RX4, "takeOut", "()Z"⟩
abbrev cX4_areAllGood : ByteArray := prog_6_method_7_code
def yX4_areAllGood : MethodName := ⟨RX4, "areAllGood", "()Z"⟩
abbrev cX4_letIn : ByteArray := prog_6_method_8_code
def yX4_letIn : MethodName := ⟨RX4, "letIn", "()I"⟩
def RX5 : String := "TypingCoach$Speeds"
def TX5 : u_T := fun k => match k with
  | 0 => ("TypingCoach$Speeds", "kept", "LTypingCoach$Cells;", true)
  | _ => ("TypingCoach$Speeds", "size", "I", false)
def tyX5 : Nat → FieldType := fun k => match k with
  | 0 => .object "TypingCoach$Cells"
  | _ => .int
abbrev wsX50 : List Cond := u_ws RX5 TX5 2
theorem nmX5 : ∀ a, a < 2 → ∀ b, b < 2 → a ≠ b → (TX5 a).2.1 ≠ (TX5 b).2.1 := by decide +kernel
theorem tyX5_ok : ∀ k, k < 2 → parseFieldDescriptor (TX5 k).2.2.1 = some (tyX5 k) := by decide +kernel
abbrev cX5_init : ByteArray := prog_7_method_1_code
def yX5_init : MethodName := ⟨RX5, "<init>", "()V"⟩
abbrev cX5_isFull : ByteArray := prog_7_method_2_code
def yX5_isFull : MethodName := ⟨RX5, "isFull", "()Z"⟩
abbrev cX5_keep : ByteArray := prog_7_method_3_code
def yX5_keep : MethodName := ⟨RX5, "keep", "(I)V"⟩
abbrev cX5_fallsAtTheEnd : ByteArray := prog_7_method_4_code
def yX5_fallsAtTheEnd : MethodName := ⟨RX5, "fallsAtTheEnd", "()I"⟩
def RX6 : String := "TypingCoach"
def TX6 : u_T := fun k => match k with
  | 0 => ("TypingCoach", "board", "LTypingCoach$Board;", true)
  | 1 => ("TypingCoach", "figures", "LTypingCoach$Figures;", true)
  | 2 => ("TypingCoach", "lettersIn", "LTypingCoach$LettersIn;", true)
  | 3 => ("TypingCoach", "lesson", "LTypingCoach$Lesson;", true)
  | 4 => ("TypingCoach", "speeds", "LTypingCoach$Speeds;", true)
  | 5 => ("TypingCoach", "errorsOfKinds", "LTypingCoach$Cells;", true)
  | 6 => ("TypingCoach", "errorsOfFingers", "LTypingCoach$Cells;", true)
  | _ => ("TypingCoach", "strokesOfDay", "I", false)
def tyX6 : Nat → FieldType := fun k => match k with
  | 0 => .object "TypingCoach$Board"
  | 1 => .object "TypingCoach$Figures"
  | 2 => .object "TypingCoach$LettersIn"
  | 3 => .object "TypingCoach$Lesson"
  | 4 => .object "TypingCoach$Speeds"
  | 5 => .object "TypingCoach$Cells"
  | 6 => .object "TypingCoach$Cells"
  | _ => .int
abbrev wsX60 : List Cond := u_ws RX6 TX6 8
theorem nmX6 : ∀ a, a < 8 → ∀ b, b < 8 → a ≠ b → (TX6 a).2.1 ≠ (TX6 b).2.1 := by decide +kernel
theorem tyX6_ok : ∀ k, k < 8 → parseFieldDescriptor (TX6 k).2.2.1 = some (tyX6 k) := by decide +kernel
abbrev cX6_init : ByteArray := prog_1_method_1_code
def yX6_init : MethodName := ⟨RX6, "<init>", "()V"⟩
abbrev cX6_put : ByteArray := prog_1_method_2_code
def yX6_put : MethodName := ⟨RX6, "put", "(III)I"⟩
abbrev cX6_finger : ByteArray := prog_1_method_3_code
def yX6_finger : MethodName := ⟨RX6, "finger", "(I)I"⟩
abbrev cX6_areBeside : ByteArray := prog_1_method_4_code
def yX6_areBeside : MethodName := ⟨RX6, "areBeside", "(II)Z"⟩
abbrev cX6_mirror : ByteArray := prog_1_method_5_code
def yX6_mirror : MethodName := ⟨RX6, "mirror", "(I)I"⟩
abbrev cX6_want : ByteArray := prog_1_method_6_code
def yX6_want : MethodName := ⟨RX6, "want", "(I)I"⟩
abbrev cX6_drill : ByteArray := prog_1_method_7_code
def yX6_drill : MethodName := ⟨RX6, "drill", "(I)I"⟩
abbrev cX6_wanted : ByteArray := prog_1_method_8_code
def yX6_wanted : MethodName := ⟨RX6, "wanted", "()I"⟩
abbrev cX6_wantedAt : ByteArray := prog_1_method_9_code
def yX6_wantedAt : MethodName := ⟨RX6, "wantedAt", "(I)I"⟩
abbrev cX6_position : ByteArray := prog_1_method_10_code
def yX6_position : MethodName := ⟨RX6, "position", "()I"⟩
abbrev cX6_stroke : ByteArray := prog_1_method_11_code
def yX6_stroke : MethodName := ⟨RX6, "stroke", "(II)I"⟩
abbrev cX6_back : ByteArray := prog_1_method_12_code
def yX6_back : MethodName := ⟨RX6, "back", "(I)I"⟩
abbrev cX6_speed : ByteArray := prog_1_method_13_code
def yX6_speed : MethodName := ⟨RX6, "speed", "()I"⟩
abbrev cX6_mended : ByteArray := prog_1_method_14_code
def yX6_mended : MethodName := ⟨RX6, "mended", "()I"⟩
abbrev cX6_end : ByteArray := prog_1_method_15_code
def yX6_end : MethodName := ⟨RX6, "end", "()I"⟩
abbrev cX6_count : ByteArray := prog_1_method_16_code
def yX6_count : MethodName := ⟨RX6, "count", "(I)I"⟩
abbrev cX6_time : ByteArray := prog_1_method_17_code
def yX6_time : MethodName := ⟨RX6, "time", "(I)I"⟩
abbrev cX6_share : ByteArray := prog_1_method_18_code
def yX6_share : MethodName := ⟨RX6, "share", "(I)I"⟩
abbrev cX6_pairTime : ByteArray := prog_1_method_19_code
def yX6_pairTime : MethodName := ⟨RX6, "pairTime", "(II)I"⟩
abbrev cX6_errors : ByteArray := prog_1_method_20_code
def yX6_errors : MethodName := ⟨RX6, "errors", "(I)I"⟩
abbrev cX6_errorsOf : ByteArray := prog_1_method_21_code
def yX6_errorsOf : MethodName := ⟨RX6, "errorsOf", "(I)I"⟩
abbrev cX6_wish : ByteArray := prog_1_method_22_code
def yX6_wish : MethodName := ⟨RX6, "wish", "(II)V"⟩
abbrev cX6_isIn : ByteArray := prog_1_method_23_code
def yX6_isIn : MethodName := ⟨RX6, "isIn", "(I)Z"⟩
abbrev cX6_isGood : ByteArray := prog_1_method_24_code
def yX6_isGood : MethodName := ⟨RX6, "isGood", "(I)Z"⟩
abbrev cX6_weakest : ByteArray := prog_1_method_25_code
def yX6_weakest : MethodName := ⟨RX6, "weakest", "()I"⟩
abbrev cX6_lessons : ByteArray := prog_1_method_26_code
def yX6_lessons : MethodName := ⟨RX6, "lessons", "()I"⟩
abbrev cX6_speedOf : ByteArray := prog_1_method_27_code
def yX6_speedOf : MethodName := ⟨RX6, "speedOf", "(I)I"⟩
abbrev cX6_falls : ByteArray := prog_1_method_28_code
def yX6_falls : MethodName := ⟨RX6, "falls", "()I"⟩
abbrev cX6_endDay : ByteArray := prog_1_method_29_code
def yX6_endDay : MethodName := ⟨RX6, "endDay", "()I"⟩
abbrev cX6_strokes : ByteArray := prog_1_method_30_code
def yX6_strokes : MethodName := ⟨RX6, "strokes", "()I"⟩
abbrev cX6_kindOfStroke : ByteArray := prog_1_method_31_code
def yX6_kindOfStroke : MethodName := ⟨RX6, "kindOfStroke", "(II)I"⟩
abbrev cX6_needLetter : ByteArray := prog_1_method_32_code
def yX6_needLetter : MethodName := ⟨RX6, "needLetter", "(I)V"⟩
abbrev cX6_needMillis : ByteArray := prog_1_method_33_code
def yX6_needMillis : MethodName := ⟨RX6, "needMillis", "(I)V"⟩
abbrev cX6_isWithin : ByteArray := prog_1_method_34_code
def yX6_isWithin : MethodName := ⟨RX6, "isWithin", "(III)Z"⟩
def RX7 : String := "TypingCoachModel"
def TX7 : u_T := fun k => match k with
  | 0 => ("TypingCoachModel", "thrown", "I", false)
  | 1 => ("TypingCoachModel", "places", "[I", true)
  | 2 => ("TypingCoachModel", "counts", "[I", true)
  | 3 => ("TypingCoachModel", "times", "[I", true)
  | 4 => ("TypingCoachModel", "shares", "[I", true)
  | 5 => ("TypingCoachModel", "areIn", "[Z", true)
  | 6 => ("TypingCoachModel", "pairs", "[I", true)
  | 7 => ("TypingCoachModel", "wanted", "[I", true)
  | 8 => ("TypingCoachModel", "typed", "[I", true)
  | 9 => ("TypingCoachModel", "many", "I", false)
  | 10 => ("TypingCoachModel", "position", "I", false)
  | 11 => ("TypingCoachModel", "spent", "I", false)
  | 12 => ("TypingCoachModel", "mended", "I", false)
  | 13 => ("TypingCoachModel", "errors", "[I", true)
  | 14 => ("TypingCoachModel", "byFinger", "[I", true)
  | 15 => ("TypingCoachModel", "wishedTime", "I", false)
  | 16 => ("TypingCoachModel", "wishedShare", "I", false)
  | 17 => ("TypingCoachModel", "lessons", "I", false)
  | 18 => ("TypingCoachModel", "speeds", "[I", true)
  | _ => ("TypingCoachModel", "strokes", "I", false)
def tyX7 : Nat → FieldType := fun k => match k with
  | 0 => .int
  | 1 => .array .int
  | 2 => .array .int
  | 3 => .array .int
  | 4 => .array .int
  | 5 => .array .boolean
  | 6 => .array .int
  | 7 => .array .int
  | 8 => .array .int
  | 9 => .int
  | 10 => .int
  | 11 => .int
  | 12 => .int
  | 13 => .array .int
  | 14 => .array .int
  | 15 => .int
  | 16 => .int
  | 17 => .int
  | 18 => .array .int
  | _ => .int
abbrev wsX70 : List Cond := u_ws RX7 TX7 20
theorem nmX7 : ∀ a, a < 20 → ∀ b, b < 20 → a ≠ b → (TX7 a).2.1 ≠ (TX7 b).2.1 := by decide +kernel
theorem tyX7_ok : ∀ k, k < 20 → parseFieldDescriptor (TX7 k).2.2.1 = some (tyX7 k) := by decide +kernel
abbrev cX7_init : ByteArray := prog_9_method_1_code
def yX7_init : MethodName := ⟨RX7, "<init>", "()V"⟩
abbrev cX7_thrown : ByteArray := prog_9_method_2_code
def yX7_thrown : MethodName := ⟨RX7, "thrown", "()I"⟩
abbrev cX7_holds : ByteArray := prog_9_method_3_code
def yX7_holds : MethodName := ⟨RX7, "holds", "(I)Z"⟩
abbrev cX7_in : ByteArray := prog_9_method_4_code
def yX7_in : MethodName := ⟨RX7, "in", "(III)Z"⟩
abbrev cX7_isLetter : ByteArray := prog_9_method_5_code
def yX7_isLetter : MethodName := ⟨RX7, "isLetter", "(I)Z"⟩
abbrev cX7_letterAt : ByteArray := prog_9_method_6_code
def yX7_letterAt : MethodName := ⟨RX7, "letterAt", "(I)I"⟩
abbrev cX7_put : ByteArray := prog_9_method_7_code
def yX7_put : MethodName := ⟨RX7, "put", "(III)I"⟩
abbrev cX7_fingerOf : ByteArray := prog_9_method_8_code
def yX7_fingerOf : MethodName := ⟨RX7, "fingerOf", "(I)I"⟩
abbrev cX7_finger : ByteArray := prog_9_method_9_code
def yX7_finger : MethodName := ⟨RX7, "finger", "(I)I"⟩
abbrev cX7_isBeside : ByteArray := prog_9_method_10_code
def yX7_isBeside : MethodName := ⟨RX7, "isBeside", "(II)Z"⟩
abbrev cX7_areBeside : ByteArray := prog_9_method_11_code
def yX7_areBeside : MethodName := ⟨RX7, "areBeside", "(II)Z"⟩
abbrev cX7_mirrorOf : ByteArray := prog_9_method_12_code
def yX7_mirrorOf : MethodName := ⟨RX7, "mirrorOf", "(I)I"⟩
abbrev cX7_mirror : ByteArray := prog_9_method_13_code
def yX7_mirror : MethodName := ⟨RX7, "mirror", "(I)I"⟩
abbrev cX7_wants : ByteArray := prog_9_method_14_code
def yX7_wants : MethodName := ⟨RX7, "wants", "(I)V"⟩
abbrev cX7_want : ByteArray := prog_9_method_15_code
def yX7_want : MethodName := ⟨RX7, "want", "(I)I"⟩
abbrev cX7_weakestOf : ByteArray := prog_9_method_16_code
def yX7_weakestOf : MethodName := ⟨RX7, "weakestOf", "()I"⟩
abbrev cX7_behind : ByteArray := prog_9_method_17_code
def yX7_behind : MethodName := ⟨RX7, "behind", "(I)I"⟩
abbrev cX7_drill : ByteArray := prog_9_method_18_code
def yX7_drill : MethodName := ⟨RX7, "drill", "(I)I"⟩
abbrev cX7_wanted : ByteArray := prog_9_method_19_code
def yX7_wanted : MethodName := ⟨RX7, "wanted", "()I"⟩
abbrev cX7_wantedAt : ByteArray := prog_9_method_20_code
def yX7_wantedAt : MethodName := ⟨RX7, "wantedAt", "(I)I"⟩
abbrev cX7_position : ByteArray := prog_9_method_21_code
def yX7_position : MethodName := ⟨RX7, "position", "()I"⟩
abbrev cX7_errorOf : ByteArray := prog_9_method_22_code
def yX7_errorOf : MethodName := ⟨RX7, "errorOf", "(I)I"⟩
abbrev cX7_stroke : ByteArray := prog_9_method_23_code
def yX7_stroke : MethodName := ⟨RX7, "stroke", "(II)I"⟩
abbrev cX7_back : ByteArray := prog_9_method_24_code
def yX7_back : MethodName := ⟨RX7, "back", "(I)I"⟩
abbrev cX7_speedNow : ByteArray := prog_9_method_25_code
def yX7_speedNow : MethodName := ⟨RX7, "speedNow", "()I"⟩
abbrev cX7_speed : ByteArray := prog_9_method_26_code
def yX7_speed : MethodName := ⟨RX7, "speed", "()I"⟩
abbrev cX7_mended : ByteArray := prog_9_method_27_code
def yX7_mended : MethodName := ⟨RX7, "mended", "()I"⟩
abbrev cX7_isGoodOne : ByteArray := prog_9_method_28_code
def yX7_isGoodOne : MethodName := ⟨RX7, "isGoodOne", "(I)Z"⟩
abbrev cX7_takesOut : ByteArray := prog_9_method_29_code
def yX7_takesOut : MethodName := ⟨RX7, "takesOut", "()Z"⟩
abbrev cX7_letsIn : ByteArray := prog_9_method_30_code
def yX7_letsIn : MethodName := ⟨RX7, "letsIn", "()I"⟩
abbrev cX7_end : ByteArray := prog_9_method_31_code
def yX7_end : MethodName := ⟨RX7, "end", "()I"⟩
abbrev cX7_count : ByteArray := prog_9_method_32_code
def yX7_count : MethodName := ⟨RX7, "count", "(I)I"⟩
abbrev cX7_time : ByteArray := prog_9_method_33_code
def yX7_time : MethodName := ⟨RX7, "time", "(I)I"⟩
abbrev cX7_share : ByteArray := prog_9_method_34_code
def yX7_share : MethodName := ⟨RX7, "share", "(I)I"⟩
abbrev cX7_pairTime : ByteArray := prog_9_method_35_code
def yX7_pairTime : MethodName := ⟨RX7, "pairTime", "(II)I"⟩
abbrev cX7_errors : ByteArray := prog_9_method_36_code
def yX7_errors : MethodName := ⟨RX7, "errors", "(I)I"⟩
abbrev cX7_errorsOf : ByteArray := prog_9_method_37_code
def yX7_errorsOf : MethodName := ⟨RX7, "errorsOf", "(I)I"⟩
abbrev cX7_wish : ByteArray := prog_9_method_38_code
def yX7_wish : MethodName := ⟨RX7, "wish", "(II)V"⟩
abbrev cX7_isIn : ByteArray := prog_9_method_39_code
def yX7_isIn : MethodName := ⟨RX7, "isIn", "(I)Z"⟩
abbrev cX7_isGood : ByteArray := prog_9_method_40_code
def yX7_isGood : MethodName := ⟨RX7, "isGood", "(I)Z"⟩
abbrev cX7_weakest : ByteArray := prog_9_method_41_code
def yX7_weakest : MethodName := ⟨RX7, "weakest", "()I"⟩
abbrev cX7_lessons : ByteArray := prog_9_method_42_code
def yX7_lessons : MethodName := ⟨RX7, "lessons", "()I"⟩
abbrev cX7_speedOf : ByteArray := prog_9_method_43_code
def yX7_speedOf : MethodName := ⟨RX7, "speedOf", "(I)I"⟩
abbrev cX7_falls : ByteArray := prog_9_method_44_code
def yX7_falls : MethodName := ⟨RX7, "falls", "()I"⟩
abbrev cX7_endDay : ByteArray := prog_9_method_45_code
def yX7_endDay : MethodName := ⟨RX7, "endDay", "()I"⟩
abbrev cX7_strokes : ByteArray := prog_9_method_46_code
def yX7_strokes : MethodName := ⟨RX7, "strokes", "()I"⟩
def RJx145de : String := "java/io/Serializable"
def TJx145de : u_T := fun k => match k with
  | _ => ("", "", "", false)
def tyJx145de : Nat → FieldType := fun k => match k with
  | _ => .int
abbrev wsJx145de0 : List Cond := u_ws RJx145de TJx145de 0
theorem nmJx145de : ∀ a, a < 0 → ∀ b, b < 0 → a ≠ b → (TJx145de a).2.1 ≠ (TJx145de b).2.1 := by decide +kernel
theorem tyJx145de_ok : ∀ k, k < 0 → parseFieldDescriptor (TJx145de k).2.2.1 = some (tyJx145de k) := by decide +kernel
def RJ9 : String := "java/lang/Math"
def TJ9 : u_T := fun k => match k with
  | _ => ("", "", "", false)
def tyJ9 : Nat → FieldType := fun k => match k with
  | _ => .int
abbrev wsJ90 : List Cond := u_ws RJ9 TJ9 0
theorem nmJ9 : ∀ a, a < 0 → ∀ b, b < 0 → a ≠ b → (TJ9 a).2.1 ≠ (TJ9 b).2.1 := by decide +kernel
theorem tyJ9_ok : ∀ k, k < 0 → parseFieldDescriptor (TJ9 k).2.2.1 = some (tyJ9 k) := by decide +kernel
abbrev cJ9_abs_0f7a4 : ByteArray := prog_14_method_59_code
def yJ9_abs_0f7a4 : MethodName := ⟨RJ9, "abs", "(I)I"⟩
abbrev cJ9_max_7cf53 : ByteArray := prog_14_method_65_code
def yJ9_max_7cf53 : MethodName := ⟨RJ9, "max", "(II)I"⟩
def RJ0 : String := "java/lang/String"
def TJ0 : u_T := fun k => match k with
  | _ => ("", "", "", false)
def tyJ0 : Nat → FieldType := fun k => match k with
  | _ => .int
abbrev wsJ00 : List Cond := u_ws RJ0 TJ0 0
theorem nmJ0 : ∀ a, a < 0 → ∀ b, b < 0 → a ≠ b → (TJ0 a).2.1 ≠ (TJ0 b).2.1 := by decide +kernel
theorem tyJ0_ok : ∀ k, k < 0 → parseFieldDescriptor (TJ0 k).2.2.1 = some (tyJ0 k) := by decide +kernel
def RJ7 : String := "java/util/Arrays"
def TJ7 : u_T := fun k => match k with
  | _ => ("", "", "", false)
def tyJ7 : Nat → FieldType := fun k => match k with
  | _ => .int
abbrev wsJ70 : List Cond := u_ws RJ7 TJ7 0
theorem nmJ7 : ∀ a, a < 0 → ∀ b, b < 0 → a ≠ b → (TJ7 a).2.1 ≠ (TJ7 b).2.1 := by decide +kernel
theorem tyJ7_ok : ∀ k, k < 0 → parseFieldDescriptor (TJ7 k).2.2.1 = some (tyJ7 k) := by decide +kernel
abbrev cJ7_fill_53178 : ByteArray := prog_18_method_103_code
def yJ7_fill_53178 : MethodName := ⟨RJ7, "fill", "([II)V"⟩
def RL : String := "TypingCoachLaw"
abbrev cL_put : ByteArray := method_3_code
def yL_put : MethodName := ⟨RL, "put", "(LTypingCoach;III[J)I"⟩
abbrev cL_finger : ByteArray := method_4_code
def yL_finger : MethodName := ⟨RL, "finger", "(LTypingCoach;I[J)I"⟩
abbrev cL_areBeside : ByteArray := method_5_code
def yL_areBeside : MethodName := ⟨RL, "areBeside", "(LTypingCoach;II[J)I"⟩
abbrev cL_mirror : ByteArray := method_6_code
def yL_mirror : MethodName := ⟨RL, "mirror", "(LTypingCoach;I[J)I"⟩
abbrev cL_want : ByteArray := method_7_code
def yL_want : MethodName := ⟨RL, "want", "(LTypingCoach;I[J)I"⟩
abbrev cL_drill : ByteArray := method_8_code
def yL_drill : MethodName := ⟨RL, "drill", "(LTypingCoach;I[J)I"⟩
abbrev cL_wantedAt : ByteArray := method_9_code
def yL_wantedAt : MethodName := ⟨RL, "wantedAt", "(LTypingCoach;I[J)I"⟩
abbrev cL_stroke : ByteArray := method_10_code
def yL_stroke : MethodName := ⟨RL, "stroke", "(LTypingCoach;II[J)I"⟩
abbrev cL_back : ByteArray := method_11_code
def yL_back : MethodName := ⟨RL, "back", "(LTypingCoach;I[J)I"⟩
abbrev cL_end : ByteArray := method_12_code
def yL_end : MethodName := ⟨RL, "end", "(LTypingCoach;[J)I"⟩
abbrev cL_count : ByteArray := method_13_code
def yL_count : MethodName := ⟨RL, "count", "(LTypingCoach;I[J)I"⟩
abbrev cL_time : ByteArray := method_14_code
def yL_time : MethodName := ⟨RL, "time", "(LTypingCoach;I[J)I"⟩
abbrev cL_share : ByteArray := method_15_code
def yL_share : MethodName := ⟨RL, "share", "(LTypingCoach;I[J)I"⟩
abbrev cL_pairTime : ByteArray := method_16_code
def yL_pairTime : MethodName := ⟨RL, "pairTime", "(LTypingCoach;II[J)I"⟩
abbrev cL_errors : ByteArray := method_17_code
def yL_errors : MethodName := ⟨RL, "errors", "(LTypingCoach;I[J)I"⟩
abbrev cL_errorsOf : ByteArray := method_18_code
def yL_errorsOf : MethodName := ⟨RL, "errorsOf", "(LTypingCoach;I[J)I"⟩
abbrev cL_wish : ByteArray := method_19_code
def yL_wish : MethodName := ⟨RL, "wish", "(LTypingCoach;II)I"⟩
abbrev cL_isIn : ByteArray := method_20_code
def yL_isIn : MethodName := ⟨RL, "isIn", "(LTypingCoach;I[J)I"⟩
abbrev cL_isGood : ByteArray := method_21_code
def yL_isGood : MethodName := ⟨RL, "isGood", "(LTypingCoach;I[J)I"⟩
abbrev cL_speedOf : ByteArray := method_22_code
def yL_speedOf : MethodName := ⟨RL, "speedOf", "(LTypingCoach;I[J)I"⟩
abbrev cL_law : ByteArray := code
def yL_law : MethodName := ⟨RL, "law", "([I)Z"⟩
def wsJ7_fill_53178 : List Cond := .code yJ7_fill_53178 cJ7_fill_53178 4 none :: ([])
def wsX1_init : List Cond := .code yX1_init cX1_init 3 none :: ([.methodLink RX1 3 objectInit, .instanceMethod objectInit, .code objectInit ⟨#[0xb1]⟩ 1 none, .methodLink RX1 9 Lib.Math.max.name, .static Lib.Math.max.name, .initialized "java/lang/Math", .code Lib.Math.max.name Lib.Math.max.code 2 (some .int), .arrayClass .int, .fieldLink RX1 15 "TypingCoach$Cells" "values" "[I", .methodLink RX1 21 yJ7_fill_53178, .static yJ7_fill_53178, .initialized RJ7, .code yJ7_fill_53178 cJ7_fill_53178 4 none] ++ wsX10)
def wsX1_set : List Cond := .code yX1_set cX1_set 3 none :: ([.fieldLink RX1 15 "TypingCoach$Cells" "values" "[I"] ++ wsX10)
def wsX0_init_r1 : List Cond := [Cond.methodLink RX0 3 objectInit, Cond.instanceMethod objectInit, Cond.code objectInit ⟨#[0xb1]⟩ 1 none, Cond.classLink RX0 9 RX1, Cond.instantiable RX1 1, Cond.initialized RX1, Cond.fieldLink RX0 14 "TypingCoach$Board" "placeOfLetter" "LTypingCoach$Cells;", Cond.fieldLink RX0 20 "TypingCoach$Board" "letterOfPlace" "LTypingCoach$Cells;", Cond.methodLink RX0 11 yX1_init, Cond.instanceMethod yX1_init, Cond.code yX1_init cX1_init 3 none, Cond.methodLink RX1 3 objectInit, Cond.methodLink RX1 9 Lib.Math.max.name, Cond.static Lib.Math.max.name, Cond.initialized "java/lang/Math", Cond.code Lib.Math.max.name Lib.Math.max.code 2 (some .int), Cond.arrayClass .int, Cond.fieldLink RX1 15 "TypingCoach$Cells" "values" "[I", Cond.methodLink RX1 21 yJ7_fill_53178, Cond.static yJ7_fill_53178, Cond.initialized RJ7, Cond.code yJ7_fill_53178 cJ7_fill_53178 4 none, Cond.methodLink RX0 23 yX1_set, Cond.instanceMethod yX1_set]
def wsX0_init_r2 : List Cond := [Cond.selects RX1 yX1_set yX1_set, Cond.code yX1_set cX1_set 3 none]
def wsX0_init : List Cond := .code yX0_init cX0_init 2 none :: ((wsX0_init_r1 ++ wsX0_init_r2) ++ wsX10 ++ wsX00)
def wsX1_at : List Cond := .code yX1_at cX1_at 2 (some .int) :: ([.fieldLink RX1 15 "TypingCoach$Cells" "values" "[I"] ++ wsX10)
def wsX0_move : List Cond := .code yX0_move cX0_move 5 (some .int) :: ([.fieldLink RX0 20 "TypingCoach$Board" "letterOfPlace" "LTypingCoach$Cells;", .fieldLink RX0 14 "TypingCoach$Board" "placeOfLetter" "LTypingCoach$Cells;", .methodLink RX0 26 yX1_at, .instanceMethod yX1_at, .selects RX1 yX1_at yX1_at, .initialized RX1, .code yX1_at cX1_at 2 (some .int), .fieldLink RX1 15 "TypingCoach$Cells" "values" "[I", .methodLink RX0 23 yX1_set, .instanceMethod yX1_set, .selects RX1 yX1_set yX1_set, .code yX1_set cX1_set 3 none] ++ wsX00 ++ wsX10)
def wsX0_columnOf : List Cond := .code yX0_columnOf cX0_columnOf 2 (some .int) :: ([.fieldLink RX0 14 "TypingCoach$Board" "placeOfLetter" "LTypingCoach$Cells;", .methodLink RX0 26 yX1_at, .instanceMethod yX1_at, .selects RX1 yX1_at yX1_at, .initialized RX1, .code yX1_at cX1_at 2 (some .int), .fieldLink RX1 15 "TypingCoach$Cells" "values" "[I"] ++ wsX00 ++ wsX10)
def wsX0_fingerOf : List Cond := .code yX0_fingerOf cX0_fingerOf 3 (some .int) :: ([.methodLink RX0 30 yX0_columnOf, .instanceMethod yX0_columnOf, .selects RX0 yX0_columnOf yX0_columnOf, .initialized RX0, .code yX0_columnOf cX0_columnOf 2 (some .int), .fieldLink RX0 14 "TypingCoach$Board" "placeOfLetter" "LTypingCoach$Cells;", .methodLink RX0 26 yX1_at, .instanceMethod yX1_at, .selects RX1 yX1_at yX1_at, .initialized RX1, .code yX1_at cX1_at 2 (some .int), .fieldLink RX1 15 "TypingCoach$Cells" "values" "[I"] ++ wsX00 ++ wsX10)
def wsX0_rowOf : List Cond := .code yX0_rowOf cX0_rowOf 2 (some .int) :: ([.fieldLink RX0 14 "TypingCoach$Board" "placeOfLetter" "LTypingCoach$Cells;", .methodLink RX0 26 yX1_at, .instanceMethod yX1_at, .selects RX1 yX1_at yX1_at, .initialized RX1, .code yX1_at cX1_at 2 (some .int), .fieldLink RX1 15 "TypingCoach$Cells" "values" "[I"] ++ wsX00 ++ wsX10)
def wsX0_touch : List Cond := .code yX0_touch cX0_touch 3 (some .boolean) :: ([.methodLink RX0 37 Lib.Math.abs.name, .static Lib.Math.abs.name, .initialized "java/lang/Math", .code Lib.Math.abs.name Lib.Math.abs.code 1 (some .int), .methodLink RX0 30 yX0_columnOf, .instanceMethod yX0_columnOf, .selects RX0 yX0_columnOf yX0_columnOf, .initialized RX0, .code yX0_columnOf cX0_columnOf 2 (some .int), .fieldLink RX0 14 "TypingCoach$Board" "placeOfLetter" "LTypingCoach$Cells;", .methodLink RX0 26 yX1_at, .instanceMethod yX1_at, .selects RX1 yX1_at yX1_at, .initialized RX1, .code yX1_at cX1_at 2 (some .int), .fieldLink RX1 15 "TypingCoach$Cells" "values" "[I", .methodLink RX0 42 yX0_rowOf, .instanceMethod yX0_rowOf, .selects RX0 yX0_rowOf yX0_rowOf, .code yX0_rowOf cX0_rowOf 2 (some .int)] ++ wsX00 ++ wsX10)
def wsX0_mirrorOf : List Cond := .code yX0_mirrorOf cX0_mirrorOf 2 (some .int) :: ([.fieldLink RX0 20 "TypingCoach$Board" "letterOfPlace" "LTypingCoach$Cells;", .methodLink RX0 42 yX0_rowOf, .instanceMethod yX0_rowOf, .selects RX0 yX0_rowOf yX0_rowOf, .initialized RX0, .code yX0_rowOf cX0_rowOf 2 (some .int), .fieldLink RX0 14 "TypingCoach$Board" "placeOfLetter" "LTypingCoach$Cells;", .methodLink RX0 26 yX1_at, .instanceMethod yX1_at, .selects RX1 yX1_at yX1_at, .initialized RX1, .code yX1_at cX1_at 2 (some .int), .fieldLink RX1 15 "TypingCoach$Cells" "values" "[I", .methodLink RX0 30 yX0_columnOf, .instanceMethod yX0_columnOf, .selects RX0 yX0_columnOf yX0_columnOf, .code yX0_columnOf cX0_columnOf 2 (some .int)] ++ wsX00 ++ wsX10)
def wsX1_add : List Cond := .code yX1_add cX1_add 3 none :: ([.methodLink RX1 27 yX1_at, .instanceMethod yX1_at, .selects RX1 yX1_at yX1_at, .initialized RX1, .code yX1_at cX1_at 2 (some .int), .fieldLink RX1 15 "TypingCoach$Cells" "values" "[I", .methodLink RX1 31 yX1_set, .instanceMethod yX1_set, .selects RX1 yX1_set yX1_set, .code yX1_set cX1_set 3 none] ++ wsX10)
def wsX2_init_r1 : List Cond := [Cond.methodLink RX2 3 objectInit, Cond.instanceMethod objectInit, Cond.code objectInit ⟨#[0xb1]⟩ 1 none, Cond.classLink RX2 9 RX1, Cond.instantiable RX1 1, Cond.initialized RX1, Cond.fieldLink RX2 14 "TypingCoach$Figures" "counts" "LTypingCoach$Cells;", Cond.fieldLink RX2 20 "TypingCoach$Figures" "times" "LTypingCoach$Cells;", Cond.fieldLink RX2 23 "TypingCoach$Figures" "shares" "LTypingCoach$Cells;", Cond.fieldLink RX2 26 "TypingCoach$Figures" "pairTimes" "LTypingCoach$Cells;", Cond.fieldLink RX2 29 "TypingCoach$Figures" "wishedTime" "I", Cond.fieldLink RX2 33 "TypingCoach$Figures" "wishedShare" "I", Cond.methodLink RX2 11 yX1_init, Cond.instanceMethod yX1_init, Cond.code yX1_init cX1_init 3 none, Cond.methodLink RX1 3 objectInit, Cond.methodLink RX1 9 Lib.Math.max.name, Cond.static Lib.Math.max.name, Cond.initialized "java/lang/Math", Cond.code Lib.Math.max.name Lib.Math.max.code 2 (some .int), Cond.arrayClass .int, Cond.fieldLink RX1 15 "TypingCoach$Cells" "values" "[I", Cond.methodLink RX1 21 yJ7_fill_53178, Cond.static yJ7_fill_53178]
def wsX2_init_r2 : List Cond := [Cond.initialized RJ7, Cond.code yJ7_fill_53178 cJ7_fill_53178 4 none]
def wsX2_init : List Cond := .code yX2_init cX2_init 1 none :: ((wsX2_init_r1 ++ wsX2_init_r2) ++ wsX10 ++ wsX20)
def wsX2_aged : List Cond := .code yX2_aged cX2_aged 2 (some .int) :: ([])
def wsX2_learn : List Cond := .code yX2_learn cX2_learn 4 none :: ([.fieldLink RX2 14 "TypingCoach$Figures" "counts" "LTypingCoach$Cells;", .fieldLink RX2 20 "TypingCoach$Figures" "times" "LTypingCoach$Cells;", .fieldLink RX2 23 "TypingCoach$Figures" "shares" "LTypingCoach$Cells;", .methodLink RX2 36 yX1_add, .instanceMethod yX1_add, .selects RX1 yX1_add yX1_add, .initialized RX1, .code yX1_add cX1_add 3 none, .methodLink RX1 27 yX1_at, .instanceMethod yX1_at, .selects RX1 yX1_at yX1_at, .code yX1_at cX1_at 2 (some .int), .fieldLink RX1 15 "TypingCoach$Cells" "values" "[I", .methodLink RX1 31 yX1_set, .instanceMethod yX1_set, .selects RX1 yX1_set yX1_set, .code yX1_set cX1_set 3 none, .methodLink RX2 39 yX1_at, .methodLink RX2 43 yX2_aged, .static yX2_aged, .initialized RX2, .code yX2_aged cX2_aged 2 (some .int), .methodLink RX2 47 yX1_set] ++ wsX20 ++ wsX10)
def wsX2_pairOf : List Cond := .code yX2_pairOf cX2_pairOf 2 (some .int) :: ([])
def wsX2_timeOfPair : List Cond := .code yX2_timeOfPair cX2_timeOfPair 3 (some .int) :: ([.fieldLink RX2 26 "TypingCoach$Figures" "pairTimes" "LTypingCoach$Cells;", .methodLink RX2 50 yX2_pairOf, .static yX2_pairOf, .initialized RX2, .code yX2_pairOf cX2_pairOf 2 (some .int), .methodLink RX2 39 yX1_at, .instanceMethod yX1_at, .selects RX1 yX1_at yX1_at, .initialized RX1, .code yX1_at cX1_at 2 (some .int), .fieldLink RX1 15 "TypingCoach$Cells" "values" "[I"] ++ wsX20 ++ wsX10)
def wsX2_learnPair : List Cond := .code yX2_learnPair cX2_learnPair 4 none :: ([.fieldLink RX2 26 "TypingCoach$Figures" "pairTimes" "LTypingCoach$Cells;", .methodLink RX2 50 yX2_pairOf, .static yX2_pairOf, .initialized RX2, .code yX2_pairOf cX2_pairOf 2 (some .int), .methodLink RX2 53 yX2_timeOfPair, .instanceMethod yX2_timeOfPair, .selects RX2 yX2_timeOfPair yX2_timeOfPair, .code yX2_timeOfPair cX2_timeOfPair 3 (some .int), .methodLink RX2 39 yX1_at, .instanceMethod yX1_at, .selects RX1 yX1_at yX1_at, .initialized RX1, .code yX1_at cX1_at 2 (some .int), .fieldLink RX1 15 "TypingCoach$Cells" "values" "[I", .methodLink RX2 43 yX2_aged, .static yX2_aged, .code yX2_aged cX2_aged 2 (some .int), .methodLink RX2 47 yX1_set, .instanceMethod yX1_set, .selects RX1 yX1_set yX1_set, .code yX1_set cX1_set 3 none] ++ wsX20 ++ wsX10)
def wsX2_fulfilsWish : List Cond := .code yX2_fulfilsWish cX2_fulfilsWish 2 (some .boolean) :: ([.fieldLink RX2 14 "TypingCoach$Figures" "counts" "LTypingCoach$Cells;", .fieldLink RX2 20 "TypingCoach$Figures" "times" "LTypingCoach$Cells;", .fieldLink RX2 29 "TypingCoach$Figures" "wishedTime" "I", .fieldLink RX2 23 "TypingCoach$Figures" "shares" "LTypingCoach$Cells;", .fieldLink RX2 33 "TypingCoach$Figures" "wishedShare" "I", .methodLink RX2 39 yX1_at, .instanceMethod yX1_at, .selects RX1 yX1_at yX1_at, .initialized RX1, .code yX1_at cX1_at 2 (some .int), .fieldLink RX1 15 "TypingCoach$Cells" "values" "[I"] ++ wsX20 ++ wsX10)
def wsX2_mustGoOut : List Cond := .code yX2_mustGoOut cX2_mustGoOut 2 (some .boolean) :: ([.fieldLink RX2 14 "TypingCoach$Figures" "counts" "LTypingCoach$Cells;", .fieldLink RX2 23 "TypingCoach$Figures" "shares" "LTypingCoach$Cells;", .methodLink RX2 39 yX1_at, .instanceMethod yX1_at, .selects RX1 yX1_at yX1_at, .initialized RX1, .code yX1_at cX1_at 2 (some .int), .fieldLink RX1 15 "TypingCoach$Cells" "values" "[I"] ++ wsX20 ++ wsX10)
def wsX2_isWeaker : List Cond := .code yX2_isWeaker cX2_isWeaker 3 (some .boolean) :: ([.fieldLink RX2 23 "TypingCoach$Figures" "shares" "LTypingCoach$Cells;", .fieldLink RX2 20 "TypingCoach$Figures" "times" "LTypingCoach$Cells;", .methodLink RX2 39 yX1_at, .instanceMethod yX1_at, .selects RX1 yX1_at yX1_at, .initialized RX1, .code yX1_at cX1_at 2 (some .int), .fieldLink RX1 15 "TypingCoach$Cells" "values" "[I"] ++ wsX20 ++ wsX10)
def wsX2_forget : List Cond := .code yX2_forget cX2_forget 2 none :: ([.fieldLink RX2 14 "TypingCoach$Figures" "counts" "LTypingCoach$Cells;", .fieldLink RX2 20 "TypingCoach$Figures" "times" "LTypingCoach$Cells;", .fieldLink RX2 23 "TypingCoach$Figures" "shares" "LTypingCoach$Cells;", .methodLink RX2 47 yX1_set, .instanceMethod yX1_set, .selects RX1 yX1_set yX1_set, .initialized RX1, .code yX1_set cX1_set 3 none, .fieldLink RX1 15 "TypingCoach$Cells" "values" "[I"] ++ wsX20 ++ wsX10)
def wsX2_halveCounts : List Cond := .code yX2_halveCounts cX2_halveCounts 2 none :: ([.fieldLink RX2 14 "TypingCoach$Figures" "counts" "LTypingCoach$Cells;", .methodLink RX2 39 yX1_at, .instanceMethod yX1_at, .selects RX1 yX1_at yX1_at, .initialized RX1, .code yX1_at cX1_at 2 (some .int), .fieldLink RX1 15 "TypingCoach$Cells" "values" "[I", .methodLink RX2 47 yX1_set, .instanceMethod yX1_set, .selects RX1 yX1_set yX1_set, .code yX1_set cX1_set 3 none] ++ wsX20 ++ wsX10)
def wsX3_init_r1 : List Cond := [Cond.methodLink RX3 3 objectInit, Cond.instanceMethod objectInit, Cond.code objectInit ⟨#[0xb1]⟩ 1 none, Cond.classLink RX3 9 RX1, Cond.instantiable RX1 1, Cond.initialized RX1, Cond.fieldLink RX3 14 "TypingCoach$Lesson" "letters" "LTypingCoach$Cells;", Cond.fieldLink RX3 20 "TypingCoach$Lesson" "typed" "LTypingCoach$Cells;", Cond.fieldLink RX3 23 "TypingCoach$Lesson" "size" "I", Cond.fieldLink RX3 27 "TypingCoach$Lesson" "position" "I", Cond.fieldLink RX3 30 "TypingCoach$Lesson" "mendedStrokes" "I", Cond.fieldLink RX3 33 "TypingCoach$Lesson" "millisInAll" "I", Cond.methodLink RX3 11 yX1_init, Cond.instanceMethod yX1_init, Cond.code yX1_init cX1_init 3 none, Cond.methodLink RX1 3 objectInit, Cond.methodLink RX1 9 Lib.Math.max.name, Cond.static Lib.Math.max.name, Cond.initialized "java/lang/Math", Cond.code Lib.Math.max.name Lib.Math.max.code 2 (some .int), Cond.arrayClass .int, Cond.fieldLink RX1 15 "TypingCoach$Cells" "values" "[I", Cond.methodLink RX1 21 yJ7_fill_53178, Cond.static yJ7_fill_53178]
def wsX3_init_r2 : List Cond := [Cond.initialized RJ7, Cond.code yJ7_fill_53178 cJ7_fill_53178 4 none]
def wsX3_init : List Cond := .code yX3_init cX3_init 1 none :: ((wsX3_init_r1 ++ wsX3_init_r2) ++ wsX10 ++ wsX30)
def wsX3_isFull : List Cond := .code yX3_isFull cX3_isFull 1 (some .boolean) :: ([.fieldLink RX3 23 "TypingCoach$Lesson" "size" "I"] ++ wsX30)
def wsX3_append : List Cond := .code yX3_append cX3_append 2 none :: ([.fieldLink RX3 14 "TypingCoach$Lesson" "letters" "LTypingCoach$Cells;", .fieldLink RX3 23 "TypingCoach$Lesson" "size" "I", .methodLink RX3 36 yX1_set, .instanceMethod yX1_set, .selects RX1 yX1_set yX1_set, .initialized RX1, .code yX1_set cX1_set 3 none, .fieldLink RX1 15 "TypingCoach$Cells" "values" "[I"] ++ wsX30 ++ wsX10)
def wsX3_letterAt : List Cond := .code yX3_letterAt cX3_letterAt 2 (some .int) :: ([.fieldLink RX3 23 "TypingCoach$Lesson" "size" "I", .fieldLink RX3 14 "TypingCoach$Lesson" "letters" "LTypingCoach$Cells;", .methodLink RX3 39 yX1_at, .instanceMethod yX1_at, .selects RX1 yX1_at yX1_at, .initialized RX1, .code yX1_at cX1_at 2 (some .int), .fieldLink RX1 15 "TypingCoach$Cells" "values" "[I"] ++ wsX30 ++ wsX10)
def wsX3_typedBefore : List Cond := .code yX3_typedBefore cX3_typedBefore 1 (some .int) :: ([.fieldLink RX3 20 "TypingCoach$Lesson" "typed" "LTypingCoach$Cells;", .fieldLink RX3 27 "TypingCoach$Lesson" "position" "I", .methodLink RX3 39 yX1_at, .instanceMethod yX1_at, .selects RX1 yX1_at yX1_at, .initialized RX1, .code yX1_at cX1_at 2 (some .int), .fieldLink RX1 15 "TypingCoach$Cells" "values" "[I"] ++ wsX30 ++ wsX10)
def wsX3_type : List Cond := .code yX3_type cX3_type 3 none :: ([.fieldLink RX3 20 "TypingCoach$Lesson" "typed" "LTypingCoach$Cells;", .fieldLink RX3 27 "TypingCoach$Lesson" "position" "I", .fieldLink RX3 33 "TypingCoach$Lesson" "millisInAll" "I", .methodLink RX3 36 yX1_set, .instanceMethod yX1_set, .selects RX1 yX1_set yX1_set, .initialized RX1, .code yX1_set cX1_set 3 none, .fieldLink RX1 15 "TypingCoach$Cells" "values" "[I"] ++ wsX30 ++ wsX10)
def wsX3_goBack : List Cond := .code yX3_goBack cX3_goBack 2 none :: ([.fieldLink RX3 27 "TypingCoach$Lesson" "position" "I", .fieldLink RX3 30 "TypingCoach$Lesson" "mendedStrokes" "I", .fieldLink RX3 33 "TypingCoach$Lesson" "millisInAll" "I"] ++ wsX30)
def wsX3_rightStrokes : List Cond := .code yX3_rightStrokes cX3_rightStrokes 3 (some .int) :: ([.fieldLink RX3 27 "TypingCoach$Lesson" "position" "I", .fieldLink RX3 20 "TypingCoach$Lesson" "typed" "LTypingCoach$Cells;", .fieldLink RX3 14 "TypingCoach$Lesson" "letters" "LTypingCoach$Cells;", .methodLink RX3 39 yX1_at, .instanceMethod yX1_at, .selects RX1 yX1_at yX1_at, .initialized RX1, .code yX1_at cX1_at 2 (some .int), .fieldLink RX1 15 "TypingCoach$Cells" "values" "[I"] ++ wsX30 ++ wsX10)
def wsX3_speedSoFar : List Cond := .code yX3_speedSoFar cX3_speedSoFar 1 (some .int) :: ([.fieldLink RX3 33 "TypingCoach$Lesson" "millisInAll" "I", .constant RX3 47 (60000), .methodLink RX3 43 yX3_rightStrokes, .instanceMethod yX3_rightStrokes, .selects RX3 yX3_rightStrokes yX3_rightStrokes, .initialized RX3, .code yX3_rightStrokes cX3_rightStrokes 3 (some .int), .fieldLink RX3 27 "TypingCoach$Lesson" "position" "I", .fieldLink RX3 20 "TypingCoach$Lesson" "typed" "LTypingCoach$Cells;", .fieldLink RX3 14 "TypingCoach$Lesson" "letters" "LTypingCoach$Cells;", .methodLink RX3 39 yX1_at, .instanceMethod yX1_at, .selects RX1 yX1_at yX1_at, .initialized RX1, .code yX1_at cX1_at 2 (some .int), .fieldLink RX1 15 "TypingCoach$Cells" "values" "[I"] ++ wsX30 ++ wsX10)
def wsX3_beginAnew : List Cond := .code yX3_beginAnew cX3_beginAnew 1 none :: ([.fieldLink RX3 23 "TypingCoach$Lesson" "size" "I", .fieldLink RX3 27 "TypingCoach$Lesson" "position" "I", .fieldLink RX3 30 "TypingCoach$Lesson" "mendedStrokes" "I", .fieldLink RX3 33 "TypingCoach$Lesson" "millisInAll" "I"] ++ wsX30)
def wsX4_init : List Cond := .code yX4_init cX4_init 3 none :: ([.methodLink RX4 3 objectInit, .instanceMethod objectInit, .code objectInit ⟨#[0xb1]⟩ 1 none, .arrayClass .boolean, .fieldLink RX4 9 "TypingCoach$LettersIn" "in" "[Z", .fieldLink RX4 15 "TypingCoach$LettersIn" "figures" "LTypingCoach$Figures;"] ++ wsX40)
def wsX4_contains : List Cond := .code yX4_contains cX4_contains 2 (some .boolean) :: ([.fieldLink RX4 9 "TypingCoach$LettersIn" "in" "[Z"] ++ wsX40)
def wsX4_weakestOfAll : List Cond := .code yX4_weakestOfAll cX4_weakestOfAll 3 (some .int) :: ([.fieldLink RX4 15 "TypingCoach$LettersIn" "figures" "LTypingCoach$Figures;", .methodLink RX4 19 yX4_contains, .instanceMethod yX4_contains, .selects RX4 yX4_contains yX4_contains, .initialized RX4, .code yX4_contains cX4_contains 2 (some .boolean), .fieldLink RX4 9 "TypingCoach$LettersIn" "in" "[Z", .methodLink RX4 23 yX2_isWeaker, .instanceMethod yX2_isWeaker, .selects RX2 yX2_isWeaker yX2_isWeaker, .initialized RX2, .code yX2_isWeaker cX2_isWeaker 3 (some .boolean), .fieldLink RX2 23 "TypingCoach$Figures" "shares" "LTypingCoach$Cells;", .fieldLink RX2 20 "TypingCoach$Figures" "times" "LTypingCoach$Cells;", .methodLink RX2 39 yX1_at, .instanceMethod yX1_at, .selects RX1 yX1_at yX1_at, .initialized RX1, .code yX1_at cX1_at 2 (some .int), .fieldLink RX1 15 "TypingCoach$Cells" "values" "[I"] ++ wsX40 ++ wsX20 ++ wsX10)
def wsX4_slowestBehind : List Cond := .code yX4_slowestBehind cX4_slowestBehind 6 (some .int) :: ([.fieldLink RX4 15 "TypingCoach$LettersIn" "figures" "LTypingCoach$Figures;", .methodLink RX4 29 yX2_timeOfPair, .instanceMethod yX2_timeOfPair, .selects RX2 yX2_timeOfPair yX2_timeOfPair, .initialized RX2, .code yX2_timeOfPair cX2_timeOfPair 3 (some .int), .fieldLink RX2 26 "TypingCoach$Figures" "pairTimes" "LTypingCoach$Cells;", .methodLink RX2 50 yX2_pairOf, .static yX2_pairOf, .code yX2_pairOf cX2_pairOf 2 (some .int), .methodLink RX2 39 yX1_at, .instanceMethod yX1_at, .selects RX1 yX1_at yX1_at, .initialized RX1, .code yX1_at cX1_at 2 (some .int), .fieldLink RX1 15 "TypingCoach$Cells" "values" "[I", .methodLink RX4 19 yX4_contains, .instanceMethod yX4_contains, .selects RX4 yX4_contains yX4_contains, .initialized RX4, .code yX4_contains cX4_contains 2 (some .boolean), .fieldLink RX4 9 "TypingCoach$LettersIn" "in" "[Z"] ++ wsX40 ++ wsX20 ++ wsX10)
def wsX4_takeOut_r1 : List Cond := [Cond.fieldLink RX4 9 "TypingCoach$LettersIn" "in" "[Z", Cond.fieldLink RX4 15 "TypingCoach$LettersIn" "figures" "LTypingCoach$Figures;", Cond.methodLink RX4 19 yX4_contains, Cond.instanceMethod yX4_contains, Cond.selects RX4 yX4_contains yX4_contains, Cond.initialized RX4, Cond.code yX4_contains cX4_contains 2 (some .boolean), Cond.methodLink RX4 44 yX2_mustGoOut, Cond.instanceMethod yX2_mustGoOut, Cond.selects RX2 yX2_mustGoOut yX2_mustGoOut, Cond.initialized RX2, Cond.code yX2_mustGoOut cX2_mustGoOut 2 (some .boolean), Cond.fieldLink RX2 14 "TypingCoach$Figures" "counts" "LTypingCoach$Cells;", Cond.fieldLink RX2 23 "TypingCoach$Figures" "shares" "LTypingCoach$Cells;", Cond.methodLink RX2 39 yX1_at, Cond.instanceMethod yX1_at, Cond.selects RX1 yX1_at yX1_at, Cond.initialized RX1, Cond.code yX1_at cX1_at 2 (some .int), Cond.fieldLink RX1 15 "TypingCoach$Cells" "values" "[I", Cond.methodLink RX4 47 yX2_forget, Cond.instanceMethod yX2_forget, Cond.selects RX2 yX2_forget yX2_forget, Cond.code yX2_forget cX2_forget 2 none]
def wsX4_takeOut_r2 : List Cond := [Cond.fieldLink RX2 20 "TypingCoach$Figures" "times" "LTypingCoach$Cells;", Cond.methodLink RX2 47 yX1_set, Cond.instanceMethod yX1_set, Cond.selects RX1 yX1_set yX1_set, Cond.code yX1_set cX1_set 3 none]
def wsX4_takeOut : List Cond := .code yX4_takeOut cX4_takeOut 3 (some .boolean) :: ((wsX4_takeOut_r1 ++ wsX4_takeOut_r2) ++ wsX40 ++ wsX20 ++ wsX10)
def wsX4_areAllGood : List Cond := .code yX4_areAllGood cX4_areAllGood 2 (some .boolean) :: ([.fieldLink RX4 15 "TypingCoach$LettersIn" "figures" "LTypingCoach$Figures;", .methodLink RX4 19 yX4_contains, .instanceMethod yX4_contains, .selects RX4 yX4_contains yX4_contains, .initialized RX4, .code yX4_contains cX4_contains 2 (some .boolean), .fieldLink RX4 9 "TypingCoach$LettersIn" "in" "[Z", .methodLink RX4 51 yX2_fulfilsWish, .instanceMethod yX2_fulfilsWish, .selects RX2 yX2_fulfilsWish yX2_fulfilsWish, .initialized RX2, .code yX2_fulfilsWish cX2_fulfilsWish 2 (some .boolean), .fieldLink RX2 14 "TypingCoach$Figures" "counts" "LTypingCoach$Cells;", .fieldLink RX2 20 "TypingCoach$Figures" "times" "LTypingCoach$Cells;", .fieldLink RX2 29 "TypingCoach$Figures" "wishedTime" "I", .fieldLink RX2 23 "TypingCoach$Figures" "shares" "LTypingCoach$Cells;", .fieldLink RX2 33 "TypingCoach$Figures" "wishedShare" "I", .methodLink RX2 39 yX1_at, .instanceMethod yX1_at, .selects RX1 yX1_at yX1_at, .initialized RX1, .code yX1_at cX1_at 2 (some .int), .fieldLink RX1 15 "TypingCoach$Cells" "values" "[I"] ++ wsX40 ++ wsX20 ++ wsX10)
def wsX4_letIn : List Cond := .code yX4_letIn cX4_letIn 2 (some .int) :: ([.fieldLink RX4 9 "TypingCoach$LettersIn" "in" "[Z", .methodLink RX4 19 yX4_contains, .instanceMethod yX4_contains, .selects RX4 yX4_contains yX4_contains, .initialized RX4, .code yX4_contains cX4_contains 2 (some .boolean)] ++ wsX40)
def wsX4_review_r1 : List Cond := [Cond.methodLink RX4 33 yX4_takeOut, Cond.instanceMethod yX4_takeOut, Cond.selects RX4 yX4_takeOut yX4_takeOut, Cond.initialized RX4, Cond.code yX4_takeOut cX4_takeOut 3 (some .boolean), Cond.fieldLink RX4 9 "TypingCoach$LettersIn" "in" "[Z", Cond.fieldLink RX4 15 "TypingCoach$LettersIn" "figures" "LTypingCoach$Figures;", Cond.methodLink RX4 19 yX4_contains, Cond.instanceMethod yX4_contains, Cond.selects RX4 yX4_contains yX4_contains, Cond.code yX4_contains cX4_contains 2 (some .boolean), Cond.methodLink RX4 44 yX2_mustGoOut, Cond.instanceMethod yX2_mustGoOut, Cond.selects RX2 yX2_mustGoOut yX2_mustGoOut, Cond.initialized RX2, Cond.code yX2_mustGoOut cX2_mustGoOut 2 (some .boolean), Cond.fieldLink RX2 14 "TypingCoach$Figures" "counts" "LTypingCoach$Cells;", Cond.fieldLink RX2 23 "TypingCoach$Figures" "shares" "LTypingCoach$Cells;", Cond.methodLink RX2 39 yX1_at, Cond.instanceMethod yX1_at, Cond.selects RX1 yX1_at yX1_at, Cond.initialized RX1, Cond.code yX1_at cX1_at 2 (some .int), Cond.fieldLink RX1 15 "TypingCoach$Cells" "values" "[I"]
def wsX4_review_r2 : List Cond := [Cond.methodLink RX4 47 yX2_forget, Cond.instanceMethod yX2_forget, Cond.selects RX2 yX2_forget yX2_forget, Cond.code yX2_forget cX2_forget 2 none, Cond.fieldLink RX2 20 "TypingCoach$Figures" "times" "LTypingCoach$Cells;", Cond.methodLink RX2 47 yX1_set, Cond.instanceMethod yX1_set, Cond.selects RX1 yX1_set yX1_set, Cond.code yX1_set cX1_set 3 none, Cond.methodLink RX4 37 yX4_areAllGood, Cond.instanceMethod yX4_areAllGood, Cond.selects RX4 yX4_areAllGood yX4_areAllGood, Cond.code yX4_areAllGood cX4_areAllGood 2 (some .boolean), Cond.methodLink RX4 51 yX2_fulfilsWish, Cond.instanceMethod yX2_fulfilsWish, Cond.selects RX2 yX2_fulfilsWish yX2_fulfilsWish, Cond.code yX2_fulfilsWish cX2_fulfilsWish 2 (some .boolean), Cond.fieldLink RX2 29 "TypingCoach$Figures" "wishedTime" "I", Cond.fieldLink RX2 33 "TypingCoach$Figures" "wishedShare" "I", Cond.methodLink RX4 40 yX4_letIn, Cond.instanceMethod yX4_letIn, Cond.selects RX4 yX4_letIn yX4_letIn, Cond.code yX4_letIn cX4_letIn 2 (some .int)]
def wsX4_review : List Cond := .code yX4_review cX4_review 1 (some .int) :: ((wsX4_review_r1 ++ wsX4_review_r2) ++ wsX40 ++ wsX20 ++ wsX10)
def wsX5_init : List Cond := .code yX5_init cX5_init 1 none :: ([.methodLink RX5 3 objectInit, .instanceMethod objectInit, .code objectInit ⟨#[0xb1]⟩ 1 none, .classLink RX5 9 RX1, .instantiable RX1 1, .initialized RX1, .fieldLink RX5 14 "TypingCoach$Speeds" "kept" "LTypingCoach$Cells;", .fieldLink RX5 20 "TypingCoach$Speeds" "size" "I", .methodLink RX5 11 yX1_init, .instanceMethod yX1_init, .code yX1_init cX1_init 3 none, .methodLink RX1 3 objectInit, .methodLink RX1 9 Lib.Math.max.name, .static Lib.Math.max.name, .initialized "java/lang/Math", .code Lib.Math.max.name Lib.Math.max.code 2 (some .int), .arrayClass .int, .fieldLink RX1 15 "TypingCoach$Cells" "values" "[I", .methodLink RX1 21 yJ7_fill_53178, .static yJ7_fill_53178, .initialized RJ7, .code yJ7_fill_53178 cJ7_fill_53178 4 none] ++ wsX10 ++ wsX50)
def wsX5_isFull : List Cond := .code yX5_isFull cX5_isFull 1 (some .boolean) :: ([.fieldLink RX5 20 "TypingCoach$Speeds" "size" "I"] ++ wsX50)
def wsX5_keep : List Cond := .code yX5_keep cX5_keep 2 none :: ([.fieldLink RX5 14 "TypingCoach$Speeds" "kept" "LTypingCoach$Cells;", .fieldLink RX5 20 "TypingCoach$Speeds" "size" "I", .methodLink RX5 24 yX1_set, .instanceMethod yX1_set, .selects RX1 yX1_set yX1_set, .initialized RX1, .code yX1_set cX1_set 3 none, .fieldLink RX1 15 "TypingCoach$Cells" "values" "[I"] ++ wsX50 ++ wsX10)
def wsX5_fallsAtTheEnd : List Cond := .code yX5_fallsAtTheEnd cX5_fallsAtTheEnd 3 (some .int) :: ([.fieldLink RX5 20 "TypingCoach$Speeds" "size" "I", .fieldLink RX5 14 "TypingCoach$Speeds" "kept" "LTypingCoach$Cells;", .methodLink RX5 27 yX1_at, .instanceMethod yX1_at, .selects RX1 yX1_at yX1_at, .initialized RX1, .code yX1_at cX1_at 2 (some .int), .fieldLink RX1 15 "TypingCoach$Cells" "values" "[I"] ++ wsX50 ++ wsX10)
def wsX6_init_r1 : List Cond := [Cond.methodLink RX6 1 objectInit, Cond.instanceMethod objectInit, Cond.code objectInit ⟨#[0xb1]⟩ 1 none, Cond.classLink RX6 7 RX0, Cond.instantiable RX0 2, Cond.initialized RX0, Cond.fieldLink RX6 10 "TypingCoach" "board" "LTypingCoach$Board;", Cond.classLink RX6 16 RX2, Cond.instantiable RX2 6, Cond.initialized RX2, Cond.fieldLink RX6 19 "TypingCoach" "figures" "LTypingCoach$Figures;", Cond.classLink RX6 23 RX4, Cond.instantiable RX4 2, Cond.initialized RX4, Cond.fieldLink RX6 28 "TypingCoach" "lettersIn" "LTypingCoach$LettersIn;", Cond.classLink RX6 32 RX3, Cond.instantiable RX3 6, Cond.initialized RX3, Cond.fieldLink RX6 35 "TypingCoach" "lesson" "LTypingCoach$Lesson;", Cond.classLink RX6 39 RX5, Cond.instantiable RX5 2, Cond.initialized RX5, Cond.fieldLink RX6 42 "TypingCoach" "speeds" "LTypingCoach$Speeds;", Cond.classLink RX6 46 RX1]
def wsX6_init_r2 : List Cond := [Cond.instantiable RX1 1, Cond.initialized RX1, Cond.fieldLink RX6 51 "TypingCoach" "errorsOfKinds" "LTypingCoach$Cells;", Cond.fieldLink RX6 55 "TypingCoach" "errorsOfFingers" "LTypingCoach$Cells;", Cond.fieldLink RX6 58 "TypingCoach" "strokesOfDay" "I", Cond.methodLink RX6 9 yX0_init, Cond.instanceMethod yX0_init, Cond.code yX0_init cX0_init 2 none, Cond.methodLink RX0 3 objectInit, Cond.classLink RX0 9 RX1, Cond.fieldLink RX0 14 "TypingCoach$Board" "placeOfLetter" "LTypingCoach$Cells;", Cond.fieldLink RX0 20 "TypingCoach$Board" "letterOfPlace" "LTypingCoach$Cells;", Cond.methodLink RX0 11 yX1_init, Cond.instanceMethod yX1_init, Cond.code yX1_init cX1_init 3 none, Cond.methodLink RX1 3 objectInit, Cond.methodLink RX1 9 Lib.Math.max.name, Cond.static Lib.Math.max.name, Cond.initialized "java/lang/Math", Cond.code Lib.Math.max.name Lib.Math.max.code 2 (some .int), Cond.arrayClass .int, Cond.fieldLink RX1 15 "TypingCoach$Cells" "values" "[I", Cond.methodLink RX1 21 yJ7_fill_53178, Cond.static yJ7_fill_53178]
def wsX6_init_r3 : List Cond := [Cond.initialized RJ7, Cond.code yJ7_fill_53178 cJ7_fill_53178 4 none, Cond.methodLink RX0 23 yX1_set, Cond.instanceMethod yX1_set, Cond.selects RX1 yX1_set yX1_set, Cond.code yX1_set cX1_set 3 none, Cond.instanceMethod yX2_init, Cond.code yX2_init cX2_init 1 none, Cond.methodLink RX2 3 objectInit, Cond.classLink RX2 9 RX1, Cond.fieldLink RX2 14 "TypingCoach$Figures" "counts" "LTypingCoach$Cells;", Cond.fieldLink RX2 20 "TypingCoach$Figures" "times" "LTypingCoach$Cells;", Cond.fieldLink RX2 23 "TypingCoach$Figures" "shares" "LTypingCoach$Cells;", Cond.fieldLink RX2 26 "TypingCoach$Figures" "pairTimes" "LTypingCoach$Cells;", Cond.fieldLink RX2 29 "TypingCoach$Figures" "wishedTime" "I", Cond.fieldLink RX2 33 "TypingCoach$Figures" "wishedShare" "I", Cond.methodLink RX2 11 yX1_init, Cond.methodLink RX6 25 yX4_init, Cond.instanceMethod yX4_init, Cond.code yX4_init cX4_init 3 none, Cond.methodLink RX4 3 objectInit, Cond.arrayClass .boolean, Cond.fieldLink RX4 9 "TypingCoach$LettersIn" "in" "[Z", Cond.fieldLink RX4 15 "TypingCoach$LettersIn" "figures" "LTypingCoach$Figures;"]
def wsX6_init_r4 : List Cond := [Cond.instanceMethod yX3_init, Cond.code yX3_init cX3_init 1 none, Cond.methodLink RX3 3 objectInit, Cond.classLink RX3 9 RX1, Cond.fieldLink RX3 14 "TypingCoach$Lesson" "letters" "LTypingCoach$Cells;", Cond.fieldLink RX3 20 "TypingCoach$Lesson" "typed" "LTypingCoach$Cells;", Cond.fieldLink RX3 23 "TypingCoach$Lesson" "size" "I", Cond.fieldLink RX3 27 "TypingCoach$Lesson" "position" "I", Cond.fieldLink RX3 30 "TypingCoach$Lesson" "mendedStrokes" "I", Cond.fieldLink RX3 33 "TypingCoach$Lesson" "millisInAll" "I", Cond.methodLink RX3 11 yX1_init, Cond.instanceMethod yX5_init, Cond.code yX5_init cX5_init 1 none, Cond.methodLink RX5 3 objectInit, Cond.classLink RX5 9 RX1, Cond.fieldLink RX5 14 "TypingCoach$Speeds" "kept" "LTypingCoach$Cells;", Cond.fieldLink RX5 20 "TypingCoach$Speeds" "size" "I", Cond.methodLink RX5 11 yX1_init, Cond.methodLink RX6 48 yX1_init]
def wsX6_init : List Cond := .code yX6_init cX6_init 1 none :: ((wsX6_init_r1 ++ (wsX6_init_r2 ++ (wsX6_init_r3 ++ wsX6_init_r4))) ++ wsX00 ++ wsX60 ++ wsX20 ++ wsX40 ++ wsX30 ++ wsX50 ++ wsX10)
def wsX6_isWithin : List Cond := .code yX6_isWithin cX6_isWithin 3 (some .boolean) :: ([])
def wsX6_needLetter : List Cond := .code yX6_needLetter cX6_needLetter 1 none :: ([.classLink RX6 70 "java/lang/IndexOutOfBoundsException", .initialized "java/lang/IndexOutOfBoundsException", .methodLink RX6 66 yX6_isWithin, .static yX6_isWithin, .initialized RX6, .code yX6_isWithin cX6_isWithin 3 (some .boolean)] ++ (vx_atS RX6 74 "java/lang/IndexOutOfBoundsException" ["java/lang/RuntimeException", "java/lang/Exception"]).filter goodWord)
def wsX6_put_r1 : List Cond := [Cond.classLink RX6 70 "java/lang/IndexOutOfBoundsException", Cond.initialized "java/lang/IndexOutOfBoundsException", Cond.fieldLink RX6 10 "TypingCoach" "board" "LTypingCoach$Board;", Cond.methodLink RX6 62 yX6_needLetter, Cond.static yX6_needLetter, Cond.initialized RX6, Cond.code yX6_needLetter cX6_needLetter 1 none, Cond.methodLink RX6 66 yX6_isWithin, Cond.static yX6_isWithin, Cond.code yX6_isWithin cX6_isWithin 3 (some .boolean), Cond.methodLink RX6 77 yX0_move, Cond.instanceMethod yX0_move, Cond.selects RX0 yX0_move yX0_move, Cond.initialized RX0, Cond.code yX0_move cX0_move 5 (some .int), Cond.fieldLink RX0 20 "TypingCoach$Board" "letterOfPlace" "LTypingCoach$Cells;", Cond.fieldLink RX0 14 "TypingCoach$Board" "placeOfLetter" "LTypingCoach$Cells;", Cond.methodLink RX0 26 yX1_at, Cond.instanceMethod yX1_at, Cond.selects RX1 yX1_at yX1_at, Cond.initialized RX1, Cond.code yX1_at cX1_at 2 (some .int), Cond.fieldLink RX1 15 "TypingCoach$Cells" "values" "[I", Cond.methodLink RX0 23 yX1_set]
def wsX6_put_r2 : List Cond := [Cond.instanceMethod yX1_set, Cond.selects RX1 yX1_set yX1_set, Cond.code yX1_set cX1_set 3 none]
def wsX6_put : List Cond := .code yX6_put cX6_put 4 (some .int) :: ((wsX6_put_r1 ++ wsX6_put_r2) ++ wsX60 ++ wsX00 ++ wsX10 ++ (vx_atS RX6 74 "java/lang/IndexOutOfBoundsException" ["java/lang/RuntimeException", "java/lang/Exception"]).filter goodWord)
def wsX6_finger_r1 : List Cond := [Cond.fieldLink RX6 10 "TypingCoach" "board" "LTypingCoach$Board;", Cond.methodLink RX6 62 yX6_needLetter, Cond.static yX6_needLetter, Cond.initialized RX6, Cond.code yX6_needLetter cX6_needLetter 1 none, Cond.classLink RX6 70 "java/lang/IndexOutOfBoundsException", Cond.initialized "java/lang/IndexOutOfBoundsException", Cond.methodLink RX6 66 yX6_isWithin, Cond.static yX6_isWithin, Cond.code yX6_isWithin cX6_isWithin 3 (some .boolean), Cond.methodLink RX6 81 yX0_fingerOf, Cond.instanceMethod yX0_fingerOf, Cond.selects RX0 yX0_fingerOf yX0_fingerOf, Cond.initialized RX0, Cond.code yX0_fingerOf cX0_fingerOf 3 (some .int), Cond.methodLink RX0 30 yX0_columnOf, Cond.instanceMethod yX0_columnOf, Cond.selects RX0 yX0_columnOf yX0_columnOf, Cond.code yX0_columnOf cX0_columnOf 2 (some .int), Cond.fieldLink RX0 14 "TypingCoach$Board" "placeOfLetter" "LTypingCoach$Cells;", Cond.methodLink RX0 26 yX1_at, Cond.instanceMethod yX1_at, Cond.selects RX1 yX1_at yX1_at, Cond.initialized RX1]
def wsX6_finger_r2 : List Cond := [Cond.code yX1_at cX1_at 2 (some .int), Cond.fieldLink RX1 15 "TypingCoach$Cells" "values" "[I"]
def wsX6_finger : List Cond := .code yX6_finger cX6_finger 2 (some .int) :: ((wsX6_finger_r1 ++ wsX6_finger_r2) ++ wsX60 ++ wsX00 ++ wsX10 ++ (vx_atS RX6 74 "java/lang/IndexOutOfBoundsException" ["java/lang/RuntimeException", "java/lang/Exception"]).filter goodWord)
def wsX6_areBeside_r1 : List Cond := [Cond.fieldLink RX6 10 "TypingCoach" "board" "LTypingCoach$Board;", Cond.methodLink RX6 62 yX6_needLetter, Cond.static yX6_needLetter, Cond.initialized RX6, Cond.code yX6_needLetter cX6_needLetter 1 none, Cond.classLink RX6 70 "java/lang/IndexOutOfBoundsException", Cond.initialized "java/lang/IndexOutOfBoundsException", Cond.methodLink RX6 66 yX6_isWithin, Cond.static yX6_isWithin, Cond.code yX6_isWithin cX6_isWithin 3 (some .boolean), Cond.methodLink RX6 85 yX0_touch, Cond.instanceMethod yX0_touch, Cond.selects RX0 yX0_touch yX0_touch, Cond.initialized RX0, Cond.code yX0_touch cX0_touch 3 (some .boolean), Cond.methodLink RX0 37 Lib.Math.abs.name, Cond.static Lib.Math.abs.name, Cond.initialized "java/lang/Math", Cond.code Lib.Math.abs.name Lib.Math.abs.code 1 (some .int), Cond.methodLink RX0 30 yX0_columnOf, Cond.instanceMethod yX0_columnOf, Cond.selects RX0 yX0_columnOf yX0_columnOf, Cond.code yX0_columnOf cX0_columnOf 2 (some .int), Cond.fieldLink RX0 14 "TypingCoach$Board" "placeOfLetter" "LTypingCoach$Cells;"]
def wsX6_areBeside_r2 : List Cond := [Cond.methodLink RX0 26 yX1_at, Cond.instanceMethod yX1_at, Cond.selects RX1 yX1_at yX1_at, Cond.initialized RX1, Cond.code yX1_at cX1_at 2 (some .int), Cond.fieldLink RX1 15 "TypingCoach$Cells" "values" "[I", Cond.methodLink RX0 42 yX0_rowOf, Cond.instanceMethod yX0_rowOf, Cond.selects RX0 yX0_rowOf yX0_rowOf, Cond.code yX0_rowOf cX0_rowOf 2 (some .int)]
def wsX6_areBeside : List Cond := .code yX6_areBeside cX6_areBeside 3 (some .boolean) :: ((wsX6_areBeside_r1 ++ wsX6_areBeside_r2) ++ wsX60 ++ wsX00 ++ wsX10 ++ (vx_atS RX6 74 "java/lang/IndexOutOfBoundsException" ["java/lang/RuntimeException", "java/lang/Exception"]).filter goodWord)
def wsX6_mirror_r1 : List Cond := [Cond.fieldLink RX6 10 "TypingCoach" "board" "LTypingCoach$Board;", Cond.methodLink RX6 62 yX6_needLetter, Cond.static yX6_needLetter, Cond.initialized RX6, Cond.code yX6_needLetter cX6_needLetter 1 none, Cond.classLink RX6 70 "java/lang/IndexOutOfBoundsException", Cond.initialized "java/lang/IndexOutOfBoundsException", Cond.methodLink RX6 66 yX6_isWithin, Cond.static yX6_isWithin, Cond.code yX6_isWithin cX6_isWithin 3 (some .boolean), Cond.methodLink RX6 89 yX0_mirrorOf, Cond.instanceMethod yX0_mirrorOf, Cond.selects RX0 yX0_mirrorOf yX0_mirrorOf, Cond.initialized RX0, Cond.code yX0_mirrorOf cX0_mirrorOf 2 (some .int), Cond.fieldLink RX0 20 "TypingCoach$Board" "letterOfPlace" "LTypingCoach$Cells;", Cond.methodLink RX0 42 yX0_rowOf, Cond.instanceMethod yX0_rowOf, Cond.selects RX0 yX0_rowOf yX0_rowOf, Cond.code yX0_rowOf cX0_rowOf 2 (some .int), Cond.fieldLink RX0 14 "TypingCoach$Board" "placeOfLetter" "LTypingCoach$Cells;", Cond.methodLink RX0 26 yX1_at, Cond.instanceMethod yX1_at, Cond.selects RX1 yX1_at yX1_at]
def wsX6_mirror_r2 : List Cond := [Cond.initialized RX1, Cond.code yX1_at cX1_at 2 (some .int), Cond.fieldLink RX1 15 "TypingCoach$Cells" "values" "[I", Cond.methodLink RX0 30 yX0_columnOf, Cond.instanceMethod yX0_columnOf, Cond.selects RX0 yX0_columnOf yX0_columnOf, Cond.code yX0_columnOf cX0_columnOf 2 (some .int)]
def wsX6_mirror : List Cond := .code yX6_mirror cX6_mirror 2 (some .int) :: ((wsX6_mirror_r1 ++ wsX6_mirror_r2) ++ wsX60 ++ wsX00 ++ wsX10 ++ (vx_atS RX6 74 "java/lang/IndexOutOfBoundsException" ["java/lang/RuntimeException", "java/lang/Exception"]).filter goodWord)
def wsX6_want_r1 : List Cond := [Cond.classLink RX6 96 "java/lang/IllegalStateException", Cond.initialized "java/lang/IllegalStateException", Cond.fieldLink RX6 35 "TypingCoach" "lesson" "LTypingCoach$Lesson;", Cond.methodLink RX6 62 yX6_needLetter, Cond.static yX6_needLetter, Cond.initialized RX6, Cond.code yX6_needLetter cX6_needLetter 1 none, Cond.classLink RX6 70 "java/lang/IndexOutOfBoundsException", Cond.initialized "java/lang/IndexOutOfBoundsException", Cond.methodLink RX6 66 yX6_isWithin, Cond.static yX6_isWithin, Cond.code yX6_isWithin cX6_isWithin 3 (some .boolean), Cond.methodLink RX6 92 yX3_isFull, Cond.instanceMethod yX3_isFull, Cond.selects RX3 yX3_isFull yX3_isFull, Cond.initialized RX3, Cond.code yX3_isFull cX3_isFull 1 (some .boolean), Cond.fieldLink RX3 23 "TypingCoach$Lesson" "size" "I", Cond.methodLink RX6 101 yX3_append, Cond.instanceMethod yX3_append, Cond.selects RX3 yX3_append yX3_append, Cond.code yX3_append cX3_append 2 none, Cond.fieldLink RX3 14 "TypingCoach$Lesson" "letters" "LTypingCoach$Cells;", Cond.methodLink RX3 36 yX1_set]
def wsX6_want_r2 : List Cond := [Cond.instanceMethod yX1_set, Cond.selects RX1 yX1_set yX1_set, Cond.initialized RX1, Cond.code yX1_set cX1_set 3 none, Cond.fieldLink RX1 15 "TypingCoach$Cells" "values" "[I"]
def wsX6_want : List Cond := .code yX6_want cX6_want 2 (some .int) :: ((wsX6_want_r1 ++ wsX6_want_r2) ++ wsX60 ++ wsX30 ++ wsX10 ++ (vx_atS RX6 100 "java/lang/IllegalStateException" ["java/lang/RuntimeException", "java/lang/Exception"]).filter goodWord ++ (vx_atS RX6 74 "java/lang/IndexOutOfBoundsException" ["java/lang/RuntimeException", "java/lang/Exception"]).filter goodWord)
def wsX6_drill_r1 : List Cond := [Cond.classLink RX6 107 "java/lang/IllegalArgumentException", Cond.initialized "java/lang/IllegalArgumentException", Cond.fieldLink RX6 28 "TypingCoach" "lettersIn" "LTypingCoach$LettersIn;", Cond.fieldLink RX6 35 "TypingCoach" "lesson" "LTypingCoach$Lesson;", Cond.methodLink RX6 66 yX6_isWithin, Cond.static yX6_isWithin, Cond.initialized RX6, Cond.code yX6_isWithin cX6_isWithin 3 (some .boolean), Cond.methodLink RX6 112 yX4_weakestOfAll, Cond.instanceMethod yX4_weakestOfAll, Cond.selects RX4 yX4_weakestOfAll yX4_weakestOfAll, Cond.initialized RX4, Cond.code yX4_weakestOfAll cX4_weakestOfAll 3 (some .int), Cond.fieldLink RX4 15 "TypingCoach$LettersIn" "figures" "LTypingCoach$Figures;", Cond.methodLink RX4 19 yX4_contains, Cond.instanceMethod yX4_contains, Cond.selects RX4 yX4_contains yX4_contains, Cond.code yX4_contains cX4_contains 2 (some .boolean), Cond.fieldLink RX4 9 "TypingCoach$LettersIn" "in" "[Z", Cond.methodLink RX4 23 yX2_isWeaker, Cond.instanceMethod yX2_isWeaker, Cond.selects RX2 yX2_isWeaker yX2_isWeaker, Cond.initialized RX2, Cond.code yX2_isWeaker cX2_isWeaker 3 (some .boolean)]
def wsX6_drill_r2 : List Cond := [Cond.fieldLink RX2 23 "TypingCoach$Figures" "shares" "LTypingCoach$Cells;", Cond.fieldLink RX2 20 "TypingCoach$Figures" "times" "LTypingCoach$Cells;", Cond.methodLink RX2 39 yX1_at, Cond.instanceMethod yX1_at, Cond.selects RX1 yX1_at yX1_at, Cond.initialized RX1, Cond.code yX1_at cX1_at 2 (some .int), Cond.fieldLink RX1 15 "TypingCoach$Cells" "values" "[I", Cond.methodLink RX6 92 yX3_isFull, Cond.instanceMethod yX3_isFull, Cond.selects RX3 yX3_isFull yX3_isFull, Cond.initialized RX3, Cond.code yX3_isFull cX3_isFull 1 (some .boolean), Cond.fieldLink RX3 23 "TypingCoach$Lesson" "size" "I", Cond.methodLink RX6 101 yX3_append, Cond.instanceMethod yX3_append, Cond.selects RX3 yX3_append yX3_append, Cond.code yX3_append cX3_append 2 none, Cond.fieldLink RX3 14 "TypingCoach$Lesson" "letters" "LTypingCoach$Cells;", Cond.methodLink RX3 36 yX1_set, Cond.instanceMethod yX1_set, Cond.selects RX1 yX1_set yX1_set, Cond.code yX1_set cX1_set 3 none, Cond.methodLink RX6 116 yX4_slowestBehind]
def wsX6_drill_r3 : List Cond := [Cond.instanceMethod yX4_slowestBehind, Cond.selects RX4 yX4_slowestBehind yX4_slowestBehind, Cond.code yX4_slowestBehind cX4_slowestBehind 6 (some .int), Cond.methodLink RX4 29 yX2_timeOfPair, Cond.instanceMethod yX2_timeOfPair, Cond.selects RX2 yX2_timeOfPair yX2_timeOfPair, Cond.code yX2_timeOfPair cX2_timeOfPair 3 (some .int), Cond.fieldLink RX2 26 "TypingCoach$Figures" "pairTimes" "LTypingCoach$Cells;", Cond.methodLink RX2 50 yX2_pairOf, Cond.static yX2_pairOf, Cond.code yX2_pairOf cX2_pairOf 2 (some .int)]
def wsX6_drill : List Cond := .code yX6_drill cX6_drill 4 (some .int) :: ((wsX6_drill_r1 ++ (wsX6_drill_r2 ++ wsX6_drill_r3)) ++ wsX60 ++ wsX40 ++ wsX20 ++ wsX10 ++ wsX30 ++ (vx_atS RX6 111 "java/lang/IllegalArgumentException" ["java/lang/RuntimeException", "java/lang/Exception"]).filter goodWord)
def wsX6_wanted : List Cond := .code yX6_wanted cX6_wanted 1 (some .int) :: ([.fieldLink RX6 35 "TypingCoach" "lesson" "LTypingCoach$Lesson;"] ++ wsX60 ++ wsX30)
def wsX6_wantedAt : List Cond := .code yX6_wantedAt cX6_wantedAt 2 (some .int) :: ([.classLink RX6 70 "java/lang/IndexOutOfBoundsException", .initialized "java/lang/IndexOutOfBoundsException", .fieldLink RX6 35 "TypingCoach" "lesson" "LTypingCoach$Lesson;", .methodLink RX6 66 yX6_isWithin, .static yX6_isWithin, .initialized RX6, .code yX6_isWithin cX6_isWithin 3 (some .boolean), .methodLink RX6 121 yX3_letterAt, .instanceMethod yX3_letterAt, .selects RX3 yX3_letterAt yX3_letterAt, .initialized RX3, .code yX3_letterAt cX3_letterAt 2 (some .int), .fieldLink RX3 23 "TypingCoach$Lesson" "size" "I", .fieldLink RX3 14 "TypingCoach$Lesson" "letters" "LTypingCoach$Cells;", .methodLink RX3 39 yX1_at, .instanceMethod yX1_at, .selects RX1 yX1_at yX1_at, .initialized RX1, .code yX1_at cX1_at 2 (some .int), .fieldLink RX1 15 "TypingCoach$Cells" "values" "[I"] ++ wsX60 ++ wsX30 ++ wsX10 ++ (vx_atS RX6 74 "java/lang/IndexOutOfBoundsException" ["java/lang/RuntimeException", "java/lang/Exception"]).filter goodWord)
def wsX6_position : List Cond := .code yX6_position cX6_position 1 (some .int) :: ([.fieldLink RX6 35 "TypingCoach" "lesson" "LTypingCoach$Lesson;"] ++ wsX60 ++ wsX30)
def wsX6_needMillis : List Cond := .code yX6_needMillis cX6_needMillis 1 none :: ([.classLink RX6 107 "java/lang/IllegalArgumentException", .initialized "java/lang/IllegalArgumentException", .methodLink RX6 66 yX6_isWithin, .static yX6_isWithin, .initialized RX6, .code yX6_isWithin cX6_isWithin 3 (some .boolean)] ++ (vx_atS RX6 111 "java/lang/IllegalArgumentException" ["java/lang/RuntimeException", "java/lang/Exception"]).filter goodWord)
def wsX6_kindOfStroke_r1 : List Cond := [Cond.fieldLink RX6 35 "TypingCoach" "lesson" "LTypingCoach$Lesson;", Cond.fieldLink RX6 10 "TypingCoach" "board" "LTypingCoach$Board;", Cond.methodLink RX6 218 yX3_typedBefore, Cond.instanceMethod yX3_typedBefore, Cond.selects RX3 yX3_typedBefore yX3_typedBefore, Cond.initialized RX3, Cond.code yX3_typedBefore cX3_typedBefore 1 (some .int), Cond.fieldLink RX3 20 "TypingCoach$Lesson" "typed" "LTypingCoach$Cells;", Cond.fieldLink RX3 27 "TypingCoach$Lesson" "position" "I", Cond.methodLink RX3 39 yX1_at, Cond.instanceMethod yX1_at, Cond.selects RX1 yX1_at yX1_at, Cond.initialized RX1, Cond.code yX1_at cX1_at 2 (some .int), Cond.fieldLink RX1 15 "TypingCoach$Cells" "values" "[I", Cond.methodLink RX6 121 yX3_letterAt, Cond.instanceMethod yX3_letterAt, Cond.selects RX3 yX3_letterAt yX3_letterAt, Cond.code yX3_letterAt cX3_letterAt 2 (some .int), Cond.fieldLink RX3 23 "TypingCoach$Lesson" "size" "I", Cond.fieldLink RX3 14 "TypingCoach$Lesson" "letters" "LTypingCoach$Cells;", Cond.methodLink RX6 85 yX0_touch, Cond.instanceMethod yX0_touch, Cond.selects RX0 yX0_touch yX0_touch]
def wsX6_kindOfStroke_r2 : List Cond := [Cond.initialized RX0, Cond.code yX0_touch cX0_touch 3 (some .boolean), Cond.methodLink RX0 37 Lib.Math.abs.name, Cond.static Lib.Math.abs.name, Cond.initialized "java/lang/Math", Cond.code Lib.Math.abs.name Lib.Math.abs.code 1 (some .int), Cond.methodLink RX0 30 yX0_columnOf, Cond.instanceMethod yX0_columnOf, Cond.selects RX0 yX0_columnOf yX0_columnOf, Cond.code yX0_columnOf cX0_columnOf 2 (some .int), Cond.fieldLink RX0 14 "TypingCoach$Board" "placeOfLetter" "LTypingCoach$Cells;", Cond.methodLink RX0 26 yX1_at, Cond.methodLink RX0 42 yX0_rowOf, Cond.instanceMethod yX0_rowOf, Cond.selects RX0 yX0_rowOf yX0_rowOf, Cond.code yX0_rowOf cX0_rowOf 2 (some .int), Cond.methodLink RX6 89 yX0_mirrorOf, Cond.instanceMethod yX0_mirrorOf, Cond.selects RX0 yX0_mirrorOf yX0_mirrorOf, Cond.code yX0_mirrorOf cX0_mirrorOf 2 (some .int), Cond.fieldLink RX0 20 "TypingCoach$Board" "letterOfPlace" "LTypingCoach$Cells;"]
def wsX6_kindOfStroke : List Cond := .code yX6_kindOfStroke cX6_kindOfStroke 3 (some .int) :: ((wsX6_kindOfStroke_r1 ++ wsX6_kindOfStroke_r2) ++ wsX60 ++ wsX30 ++ wsX10 ++ wsX00)
def wsX6_stroke_r1 : List Cond := [Cond.classLink RX6 96 "java/lang/IllegalStateException", Cond.initialized "java/lang/IllegalStateException", Cond.fieldLink RX6 35 "TypingCoach" "lesson" "LTypingCoach$Lesson;", Cond.fieldLink RX6 19 "TypingCoach" "figures" "LTypingCoach$Figures;", Cond.fieldLink RX6 51 "TypingCoach" "errorsOfKinds" "LTypingCoach$Cells;", Cond.fieldLink RX6 55 "TypingCoach" "errorsOfFingers" "LTypingCoach$Cells;", Cond.fieldLink RX6 10 "TypingCoach" "board" "LTypingCoach$Board;", Cond.fieldLink RX6 58 "TypingCoach" "strokesOfDay" "I", Cond.methodLink RX6 62 yX6_needLetter, Cond.static yX6_needLetter, Cond.initialized RX6, Cond.code yX6_needLetter cX6_needLetter 1 none, Cond.classLink RX6 70 "java/lang/IndexOutOfBoundsException", Cond.initialized "java/lang/IndexOutOfBoundsException", Cond.methodLink RX6 66 yX6_isWithin, Cond.static yX6_isWithin, Cond.code yX6_isWithin cX6_isWithin 3 (some .boolean), Cond.methodLink RX6 127 yX6_needMillis, Cond.static yX6_needMillis, Cond.code yX6_needMillis cX6_needMillis 1 none, Cond.classLink RX6 107 "java/lang/IllegalArgumentException", Cond.initialized "java/lang/IllegalArgumentException", Cond.methodLink RX6 121 yX3_letterAt, Cond.instanceMethod yX3_letterAt]
def wsX6_stroke_r2 : List Cond := [Cond.selects RX3 yX3_letterAt yX3_letterAt, Cond.initialized RX3, Cond.code yX3_letterAt cX3_letterAt 2 (some .int), Cond.fieldLink RX3 23 "TypingCoach$Lesson" "size" "I", Cond.fieldLink RX3 14 "TypingCoach$Lesson" "letters" "LTypingCoach$Cells;", Cond.methodLink RX3 39 yX1_at, Cond.instanceMethod yX1_at, Cond.selects RX1 yX1_at yX1_at, Cond.initialized RX1, Cond.code yX1_at cX1_at 2 (some .int), Cond.fieldLink RX1 15 "TypingCoach$Cells" "values" "[I", Cond.methodLink RX6 132 yX6_kindOfStroke, Cond.instanceMethod yX6_kindOfStroke, Cond.selects RX6 yX6_kindOfStroke yX6_kindOfStroke, Cond.code yX6_kindOfStroke cX6_kindOfStroke 3 (some .int), Cond.methodLink RX6 218 yX3_typedBefore, Cond.instanceMethod yX3_typedBefore, Cond.selects RX3 yX3_typedBefore yX3_typedBefore, Cond.code yX3_typedBefore cX3_typedBefore 1 (some .int), Cond.fieldLink RX3 20 "TypingCoach$Lesson" "typed" "LTypingCoach$Cells;", Cond.fieldLink RX3 27 "TypingCoach$Lesson" "position" "I", Cond.methodLink RX6 85 yX0_touch, Cond.instanceMethod yX0_touch, Cond.selects RX0 yX0_touch yX0_touch]
def wsX6_stroke_r3 : List Cond := [Cond.initialized RX0, Cond.code yX0_touch cX0_touch 3 (some .boolean), Cond.methodLink RX0 37 Lib.Math.abs.name, Cond.static Lib.Math.abs.name, Cond.initialized "java/lang/Math", Cond.code Lib.Math.abs.name Lib.Math.abs.code 1 (some .int), Cond.methodLink RX0 30 yX0_columnOf, Cond.instanceMethod yX0_columnOf, Cond.selects RX0 yX0_columnOf yX0_columnOf, Cond.code yX0_columnOf cX0_columnOf 2 (some .int), Cond.fieldLink RX0 14 "TypingCoach$Board" "placeOfLetter" "LTypingCoach$Cells;", Cond.methodLink RX0 26 yX1_at, Cond.methodLink RX0 42 yX0_rowOf, Cond.instanceMethod yX0_rowOf, Cond.selects RX0 yX0_rowOf yX0_rowOf, Cond.code yX0_rowOf cX0_rowOf 2 (some .int), Cond.methodLink RX6 89 yX0_mirrorOf, Cond.instanceMethod yX0_mirrorOf, Cond.selects RX0 yX0_mirrorOf yX0_mirrorOf, Cond.code yX0_mirrorOf cX0_mirrorOf 2 (some .int), Cond.fieldLink RX0 20 "TypingCoach$Board" "letterOfPlace" "LTypingCoach$Cells;", Cond.methodLink RX6 135 yX2_learn, Cond.instanceMethod yX2_learn, Cond.selects RX2 yX2_learn yX2_learn]
def wsX6_stroke_r4 : List Cond := [Cond.initialized RX2, Cond.code yX2_learn cX2_learn 4 none, Cond.fieldLink RX2 14 "TypingCoach$Figures" "counts" "LTypingCoach$Cells;", Cond.fieldLink RX2 20 "TypingCoach$Figures" "times" "LTypingCoach$Cells;", Cond.fieldLink RX2 23 "TypingCoach$Figures" "shares" "LTypingCoach$Cells;", Cond.methodLink RX2 36 yX1_add, Cond.instanceMethod yX1_add, Cond.selects RX1 yX1_add yX1_add, Cond.code yX1_add cX1_add 3 none, Cond.methodLink RX1 27 yX1_at, Cond.methodLink RX1 31 yX1_set, Cond.instanceMethod yX1_set, Cond.selects RX1 yX1_set yX1_set, Cond.code yX1_set cX1_set 3 none, Cond.methodLink RX2 39 yX1_at, Cond.methodLink RX2 43 yX2_aged, Cond.static yX2_aged, Cond.code yX2_aged cX2_aged 2 (some .int), Cond.methodLink RX2 47 yX1_set, Cond.methodLink RX6 139 yX2_learnPair, Cond.instanceMethod yX2_learnPair, Cond.selects RX2 yX2_learnPair yX2_learnPair, Cond.code yX2_learnPair cX2_learnPair 4 none, Cond.fieldLink RX2 26 "TypingCoach$Figures" "pairTimes" "LTypingCoach$Cells;"]
def wsX6_stroke_r5 : List Cond := [Cond.methodLink RX2 50 yX2_pairOf, Cond.static yX2_pairOf, Cond.code yX2_pairOf cX2_pairOf 2 (some .int), Cond.methodLink RX2 53 yX2_timeOfPair, Cond.instanceMethod yX2_timeOfPair, Cond.selects RX2 yX2_timeOfPair yX2_timeOfPair, Cond.code yX2_timeOfPair cX2_timeOfPair 3 (some .int), Cond.methodLink RX6 143 yX1_add, Cond.methodLink RX6 81 yX0_fingerOf, Cond.instanceMethod yX0_fingerOf, Cond.selects RX0 yX0_fingerOf yX0_fingerOf, Cond.code yX0_fingerOf cX0_fingerOf 3 (some .int), Cond.methodLink RX6 146 yX3_type, Cond.instanceMethod yX3_type, Cond.selects RX3 yX3_type yX3_type, Cond.code yX3_type cX3_type 3 none, Cond.fieldLink RX3 33 "TypingCoach$Lesson" "millisInAll" "I", Cond.methodLink RX3 36 yX1_set]
def wsX6_stroke : List Cond := .code yX6_stroke cX6_stroke 5 (some .int) :: ((wsX6_stroke_r1 ++ (wsX6_stroke_r2 ++ (wsX6_stroke_r3 ++ (wsX6_stroke_r4 ++ wsX6_stroke_r5)))) ++ wsX60 ++ wsX30 ++ wsX10 ++ wsX00 ++ wsX20 ++ (vx_atS RX6 100 "java/lang/IllegalStateException" ["java/lang/RuntimeException", "java/lang/Exception"]).filter goodWord ++ (vx_atS RX6 74 "java/lang/IndexOutOfBoundsException" ["java/lang/RuntimeException", "java/lang/Exception"]).filter goodWord ++ (vx_atS RX6 111 "java/lang/IllegalArgumentException" ["java/lang/RuntimeException", "java/lang/Exception"]).filter goodWord)
def wsX6_back : List Cond := .code yX6_back cX6_back 2 (some .int) :: ([.classLink RX6 96 "java/lang/IllegalStateException", .initialized "java/lang/IllegalStateException", .fieldLink RX6 35 "TypingCoach" "lesson" "LTypingCoach$Lesson;", .methodLink RX6 127 yX6_needMillis, .static yX6_needMillis, .initialized RX6, .code yX6_needMillis cX6_needMillis 1 none, .classLink RX6 107 "java/lang/IllegalArgumentException", .initialized "java/lang/IllegalArgumentException", .methodLink RX6 66 yX6_isWithin, .static yX6_isWithin, .code yX6_isWithin cX6_isWithin 3 (some .boolean), .methodLink RX6 151 yX3_goBack, .instanceMethod yX3_goBack, .selects RX3 yX3_goBack yX3_goBack, .initialized RX3, .code yX3_goBack cX3_goBack 2 none, .fieldLink RX3 27 "TypingCoach$Lesson" "position" "I", .fieldLink RX3 30 "TypingCoach$Lesson" "mendedStrokes" "I", .fieldLink RX3 33 "TypingCoach$Lesson" "millisInAll" "I"] ++ wsX60 ++ wsX30 ++ (vx_atS RX6 100 "java/lang/IllegalStateException" ["java/lang/RuntimeException", "java/lang/Exception"]).filter goodWord ++ (vx_atS RX6 111 "java/lang/IllegalArgumentException" ["java/lang/RuntimeException", "java/lang/Exception"]).filter goodWord)
def wsX6_speed : List Cond := .code yX6_speed cX6_speed 1 (some .int) :: ([.fieldLink RX6 35 "TypingCoach" "lesson" "LTypingCoach$Lesson;", .methodLink RX6 154 yX3_speedSoFar, .instanceMethod yX3_speedSoFar, .selects RX3 yX3_speedSoFar yX3_speedSoFar, .initialized RX3, .code yX3_speedSoFar cX3_speedSoFar 1 (some .int), .fieldLink RX3 33 "TypingCoach$Lesson" "millisInAll" "I", .constant RX3 47 (60000), .methodLink RX3 43 yX3_rightStrokes, .instanceMethod yX3_rightStrokes, .selects RX3 yX3_rightStrokes yX3_rightStrokes, .code yX3_rightStrokes cX3_rightStrokes 3 (some .int), .fieldLink RX3 27 "TypingCoach$Lesson" "position" "I", .fieldLink RX3 20 "TypingCoach$Lesson" "typed" "LTypingCoach$Cells;", .fieldLink RX3 14 "TypingCoach$Lesson" "letters" "LTypingCoach$Cells;", .methodLink RX3 39 yX1_at, .instanceMethod yX1_at, .selects RX1 yX1_at yX1_at, .initialized RX1, .code yX1_at cX1_at 2 (some .int), .fieldLink RX1 15 "TypingCoach$Cells" "values" "[I"] ++ wsX60 ++ wsX30 ++ wsX10)
def wsX6_mended : List Cond := .code yX6_mended cX6_mended 1 (some .int) :: ([.fieldLink RX6 35 "TypingCoach" "lesson" "LTypingCoach$Lesson;"] ++ wsX60 ++ wsX30)
def wsX6_end_r1 : List Cond := [Cond.classLink RX6 96 "java/lang/IllegalStateException", Cond.initialized "java/lang/IllegalStateException", Cond.fieldLink RX6 42 "TypingCoach" "speeds" "LTypingCoach$Speeds;", Cond.fieldLink RX6 28 "TypingCoach" "lettersIn" "LTypingCoach$LettersIn;", Cond.fieldLink RX6 35 "TypingCoach" "lesson" "LTypingCoach$Lesson;", Cond.methodLink RX6 160 yX5_isFull, Cond.instanceMethod yX5_isFull, Cond.selects RX5 yX5_isFull yX5_isFull, Cond.initialized RX5, Cond.code yX5_isFull cX5_isFull 1 (some .boolean), Cond.fieldLink RX5 20 "TypingCoach$Speeds" "size" "I", Cond.methodLink RX6 163 yX4_review, Cond.instanceMethod yX4_review, Cond.selects RX4 yX4_review yX4_review, Cond.initialized RX4, Cond.code yX4_review cX4_review 1 (some .int), Cond.methodLink RX4 33 yX4_takeOut, Cond.instanceMethod yX4_takeOut, Cond.selects RX4 yX4_takeOut yX4_takeOut, Cond.code yX4_takeOut cX4_takeOut 3 (some .boolean), Cond.fieldLink RX4 9 "TypingCoach$LettersIn" "in" "[Z", Cond.fieldLink RX4 15 "TypingCoach$LettersIn" "figures" "LTypingCoach$Figures;", Cond.methodLink RX4 19 yX4_contains, Cond.instanceMethod yX4_contains]
def wsX6_end_r2 : List Cond := [Cond.selects RX4 yX4_contains yX4_contains, Cond.code yX4_contains cX4_contains 2 (some .boolean), Cond.methodLink RX4 44 yX2_mustGoOut, Cond.instanceMethod yX2_mustGoOut, Cond.selects RX2 yX2_mustGoOut yX2_mustGoOut, Cond.initialized RX2, Cond.code yX2_mustGoOut cX2_mustGoOut 2 (some .boolean), Cond.fieldLink RX2 14 "TypingCoach$Figures" "counts" "LTypingCoach$Cells;", Cond.fieldLink RX2 23 "TypingCoach$Figures" "shares" "LTypingCoach$Cells;", Cond.methodLink RX2 39 yX1_at, Cond.instanceMethod yX1_at, Cond.selects RX1 yX1_at yX1_at, Cond.initialized RX1, Cond.code yX1_at cX1_at 2 (some .int), Cond.fieldLink RX1 15 "TypingCoach$Cells" "values" "[I", Cond.methodLink RX4 47 yX2_forget, Cond.instanceMethod yX2_forget, Cond.selects RX2 yX2_forget yX2_forget, Cond.code yX2_forget cX2_forget 2 none, Cond.fieldLink RX2 20 "TypingCoach$Figures" "times" "LTypingCoach$Cells;", Cond.methodLink RX2 47 yX1_set, Cond.instanceMethod yX1_set, Cond.selects RX1 yX1_set yX1_set, Cond.code yX1_set cX1_set 3 none]
def wsX6_end_r3 : List Cond := [Cond.methodLink RX4 37 yX4_areAllGood, Cond.instanceMethod yX4_areAllGood, Cond.selects RX4 yX4_areAllGood yX4_areAllGood, Cond.code yX4_areAllGood cX4_areAllGood 2 (some .boolean), Cond.methodLink RX4 51 yX2_fulfilsWish, Cond.instanceMethod yX2_fulfilsWish, Cond.selects RX2 yX2_fulfilsWish yX2_fulfilsWish, Cond.code yX2_fulfilsWish cX2_fulfilsWish 2 (some .boolean), Cond.fieldLink RX2 29 "TypingCoach$Figures" "wishedTime" "I", Cond.fieldLink RX2 33 "TypingCoach$Figures" "wishedShare" "I", Cond.methodLink RX4 40 yX4_letIn, Cond.instanceMethod yX4_letIn, Cond.selects RX4 yX4_letIn yX4_letIn, Cond.code yX4_letIn cX4_letIn 2 (some .int), Cond.methodLink RX6 154 yX3_speedSoFar, Cond.instanceMethod yX3_speedSoFar, Cond.selects RX3 yX3_speedSoFar yX3_speedSoFar, Cond.initialized RX3, Cond.code yX3_speedSoFar cX3_speedSoFar 1 (some .int), Cond.fieldLink RX3 33 "TypingCoach$Lesson" "millisInAll" "I", Cond.constant RX3 47 (60000), Cond.methodLink RX3 43 yX3_rightStrokes, Cond.instanceMethod yX3_rightStrokes, Cond.selects RX3 yX3_rightStrokes yX3_rightStrokes]
def wsX6_end_r4 : List Cond := [Cond.code yX3_rightStrokes cX3_rightStrokes 3 (some .int), Cond.fieldLink RX3 27 "TypingCoach$Lesson" "position" "I", Cond.fieldLink RX3 20 "TypingCoach$Lesson" "typed" "LTypingCoach$Cells;", Cond.fieldLink RX3 14 "TypingCoach$Lesson" "letters" "LTypingCoach$Cells;", Cond.methodLink RX3 39 yX1_at, Cond.methodLink RX6 166 yX5_keep, Cond.instanceMethod yX5_keep, Cond.selects RX5 yX5_keep yX5_keep, Cond.code yX5_keep cX5_keep 2 none, Cond.fieldLink RX5 14 "TypingCoach$Speeds" "kept" "LTypingCoach$Cells;", Cond.methodLink RX5 24 yX1_set, Cond.methodLink RX6 169 yX3_beginAnew, Cond.instanceMethod yX3_beginAnew, Cond.selects RX3 yX3_beginAnew yX3_beginAnew, Cond.code yX3_beginAnew cX3_beginAnew 1 none, Cond.fieldLink RX3 23 "TypingCoach$Lesson" "size" "I", Cond.fieldLink RX3 30 "TypingCoach$Lesson" "mendedStrokes" "I"]
def wsX6_end : List Cond := .code yX6_end cX6_end 2 (some .int) :: ((wsX6_end_r1 ++ (wsX6_end_r2 ++ (wsX6_end_r3 ++ wsX6_end_r4))) ++ wsX60 ++ wsX50 ++ wsX40 ++ wsX20 ++ wsX10 ++ wsX30 ++ (vx_atS RX6 100 "java/lang/IllegalStateException" ["java/lang/RuntimeException", "java/lang/Exception"]).filter goodWord)
def wsX6_count : List Cond := .code yX6_count cX6_count 2 (some .int) :: ([.fieldLink RX6 19 "TypingCoach" "figures" "LTypingCoach$Figures;", .methodLink RX6 62 yX6_needLetter, .static yX6_needLetter, .initialized RX6, .code yX6_needLetter cX6_needLetter 1 none, .classLink RX6 70 "java/lang/IndexOutOfBoundsException", .initialized "java/lang/IndexOutOfBoundsException", .methodLink RX6 66 yX6_isWithin, .static yX6_isWithin, .code yX6_isWithin cX6_isWithin 3 (some .boolean), .methodLink RX6 175 yX1_at, .instanceMethod yX1_at, .selects RX1 yX1_at yX1_at, .initialized RX1, .code yX1_at cX1_at 2 (some .int), .fieldLink RX1 15 "TypingCoach$Cells" "values" "[I"] ++ wsX60 ++ wsX20 ++ wsX10 ++ (vx_atS RX6 74 "java/lang/IndexOutOfBoundsException" ["java/lang/RuntimeException", "java/lang/Exception"]).filter goodWord)
def wsX6_time : List Cond := .code yX6_time cX6_time 2 (some .int) :: ([.fieldLink RX6 19 "TypingCoach" "figures" "LTypingCoach$Figures;", .methodLink RX6 62 yX6_needLetter, .static yX6_needLetter, .initialized RX6, .code yX6_needLetter cX6_needLetter 1 none, .classLink RX6 70 "java/lang/IndexOutOfBoundsException", .initialized "java/lang/IndexOutOfBoundsException", .methodLink RX6 66 yX6_isWithin, .static yX6_isWithin, .code yX6_isWithin cX6_isWithin 3 (some .boolean), .methodLink RX6 175 yX1_at, .instanceMethod yX1_at, .selects RX1 yX1_at yX1_at, .initialized RX1, .code yX1_at cX1_at 2 (some .int), .fieldLink RX1 15 "TypingCoach$Cells" "values" "[I"] ++ wsX60 ++ wsX20 ++ wsX10 ++ (vx_atS RX6 74 "java/lang/IndexOutOfBoundsException" ["java/lang/RuntimeException", "java/lang/Exception"]).filter goodWord)
def wsX6_share : List Cond := .code yX6_share cX6_share 2 (some .int) :: ([.fieldLink RX6 19 "TypingCoach" "figures" "LTypingCoach$Figures;", .methodLink RX6 62 yX6_needLetter, .static yX6_needLetter, .initialized RX6, .code yX6_needLetter cX6_needLetter 1 none, .classLink RX6 70 "java/lang/IndexOutOfBoundsException", .initialized "java/lang/IndexOutOfBoundsException", .methodLink RX6 66 yX6_isWithin, .static yX6_isWithin, .code yX6_isWithin cX6_isWithin 3 (some .boolean), .methodLink RX6 175 yX1_at, .instanceMethod yX1_at, .selects RX1 yX1_at yX1_at, .initialized RX1, .code yX1_at cX1_at 2 (some .int), .fieldLink RX1 15 "TypingCoach$Cells" "values" "[I"] ++ wsX60 ++ wsX20 ++ wsX10 ++ (vx_atS RX6 74 "java/lang/IndexOutOfBoundsException" ["java/lang/RuntimeException", "java/lang/Exception"]).filter goodWord)
def wsX6_pairTime_r1 : List Cond := [Cond.fieldLink RX6 19 "TypingCoach" "figures" "LTypingCoach$Figures;", Cond.methodLink RX6 62 yX6_needLetter, Cond.static yX6_needLetter, Cond.initialized RX6, Cond.code yX6_needLetter cX6_needLetter 1 none, Cond.classLink RX6 70 "java/lang/IndexOutOfBoundsException", Cond.initialized "java/lang/IndexOutOfBoundsException", Cond.methodLink RX6 66 yX6_isWithin, Cond.static yX6_isWithin, Cond.code yX6_isWithin cX6_isWithin 3 (some .boolean), Cond.methodLink RX6 184 yX2_timeOfPair, Cond.instanceMethod yX2_timeOfPair, Cond.selects RX2 yX2_timeOfPair yX2_timeOfPair, Cond.initialized RX2, Cond.code yX2_timeOfPair cX2_timeOfPair 3 (some .int), Cond.fieldLink RX2 26 "TypingCoach$Figures" "pairTimes" "LTypingCoach$Cells;", Cond.methodLink RX2 50 yX2_pairOf, Cond.static yX2_pairOf, Cond.code yX2_pairOf cX2_pairOf 2 (some .int), Cond.methodLink RX2 39 yX1_at, Cond.instanceMethod yX1_at, Cond.selects RX1 yX1_at yX1_at, Cond.initialized RX1, Cond.code yX1_at cX1_at 2 (some .int)]
def wsX6_pairTime_r2 : List Cond := [Cond.fieldLink RX1 15 "TypingCoach$Cells" "values" "[I"]
def wsX6_pairTime : List Cond := .code yX6_pairTime cX6_pairTime 3 (some .int) :: ((wsX6_pairTime_r1 ++ wsX6_pairTime_r2) ++ wsX60 ++ wsX20 ++ wsX10 ++ (vx_atS RX6 74 "java/lang/IndexOutOfBoundsException" ["java/lang/RuntimeException", "java/lang/Exception"]).filter goodWord)
def wsX6_errors : List Cond := .code yX6_errors cX6_errors 2 (some .int) :: ([.classLink RX6 107 "java/lang/IllegalArgumentException", .initialized "java/lang/IllegalArgumentException", .fieldLink RX6 51 "TypingCoach" "errorsOfKinds" "LTypingCoach$Cells;", .methodLink RX6 66 yX6_isWithin, .static yX6_isWithin, .initialized RX6, .code yX6_isWithin cX6_isWithin 3 (some .boolean), .methodLink RX6 175 yX1_at, .instanceMethod yX1_at, .selects RX1 yX1_at yX1_at, .initialized RX1, .code yX1_at cX1_at 2 (some .int), .fieldLink RX1 15 "TypingCoach$Cells" "values" "[I"] ++ wsX60 ++ wsX10 ++ (vx_atS RX6 111 "java/lang/IllegalArgumentException" ["java/lang/RuntimeException", "java/lang/Exception"]).filter goodWord)
def wsX6_errorsOf : List Cond := .code yX6_errorsOf cX6_errorsOf 2 (some .int) :: ([.classLink RX6 107 "java/lang/IllegalArgumentException", .initialized "java/lang/IllegalArgumentException", .fieldLink RX6 55 "TypingCoach" "errorsOfFingers" "LTypingCoach$Cells;", .methodLink RX6 66 yX6_isWithin, .static yX6_isWithin, .initialized RX6, .code yX6_isWithin cX6_isWithin 3 (some .boolean), .methodLink RX6 175 yX1_at, .instanceMethod yX1_at, .selects RX1 yX1_at yX1_at, .initialized RX1, .code yX1_at cX1_at 2 (some .int), .fieldLink RX1 15 "TypingCoach$Cells" "values" "[I"] ++ wsX60 ++ wsX10 ++ (vx_atS RX6 111 "java/lang/IllegalArgumentException" ["java/lang/RuntimeException", "java/lang/Exception"]).filter goodWord)
def wsX6_wish : List Cond := .code yX6_wish cX6_wish 3 none :: ([.classLink RX6 107 "java/lang/IllegalArgumentException", .initialized "java/lang/IllegalArgumentException", .fieldLink RX6 19 "TypingCoach" "figures" "LTypingCoach$Figures;", .methodLink RX6 66 yX6_isWithin, .static yX6_isWithin, .initialized RX6, .code yX6_isWithin cX6_isWithin 3 (some .boolean)] ++ wsX60 ++ wsX20 ++ (vx_atS RX6 111 "java/lang/IllegalArgumentException" ["java/lang/RuntimeException", "java/lang/Exception"]).filter goodWord)
def wsX6_isIn : List Cond := .code yX6_isIn cX6_isIn 2 (some .boolean) :: ([.fieldLink RX6 28 "TypingCoach" "lettersIn" "LTypingCoach$LettersIn;", .methodLink RX6 62 yX6_needLetter, .static yX6_needLetter, .initialized RX6, .code yX6_needLetter cX6_needLetter 1 none, .classLink RX6 70 "java/lang/IndexOutOfBoundsException", .initialized "java/lang/IndexOutOfBoundsException", .methodLink RX6 66 yX6_isWithin, .static yX6_isWithin, .code yX6_isWithin cX6_isWithin 3 (some .boolean), .methodLink RX6 199 yX4_contains, .instanceMethod yX4_contains, .selects RX4 yX4_contains yX4_contains, .initialized RX4, .code yX4_contains cX4_contains 2 (some .boolean), .fieldLink RX4 9 "TypingCoach$LettersIn" "in" "[Z"] ++ wsX60 ++ wsX40 ++ (vx_atS RX6 74 "java/lang/IndexOutOfBoundsException" ["java/lang/RuntimeException", "java/lang/Exception"]).filter goodWord)
def wsX6_isGood_r1 : List Cond := [Cond.fieldLink RX6 19 "TypingCoach" "figures" "LTypingCoach$Figures;", Cond.methodLink RX6 62 yX6_needLetter, Cond.static yX6_needLetter, Cond.initialized RX6, Cond.code yX6_needLetter cX6_needLetter 1 none, Cond.classLink RX6 70 "java/lang/IndexOutOfBoundsException", Cond.initialized "java/lang/IndexOutOfBoundsException", Cond.methodLink RX6 66 yX6_isWithin, Cond.static yX6_isWithin, Cond.code yX6_isWithin cX6_isWithin 3 (some .boolean), Cond.methodLink RX6 203 yX2_fulfilsWish, Cond.instanceMethod yX2_fulfilsWish, Cond.selects RX2 yX2_fulfilsWish yX2_fulfilsWish, Cond.initialized RX2, Cond.code yX2_fulfilsWish cX2_fulfilsWish 2 (some .boolean), Cond.fieldLink RX2 14 "TypingCoach$Figures" "counts" "LTypingCoach$Cells;", Cond.fieldLink RX2 20 "TypingCoach$Figures" "times" "LTypingCoach$Cells;", Cond.fieldLink RX2 29 "TypingCoach$Figures" "wishedTime" "I", Cond.fieldLink RX2 23 "TypingCoach$Figures" "shares" "LTypingCoach$Cells;", Cond.fieldLink RX2 33 "TypingCoach$Figures" "wishedShare" "I", Cond.methodLink RX2 39 yX1_at, Cond.instanceMethod yX1_at, Cond.selects RX1 yX1_at yX1_at, Cond.initialized RX1]
def wsX6_isGood_r2 : List Cond := [Cond.code yX1_at cX1_at 2 (some .int), Cond.fieldLink RX1 15 "TypingCoach$Cells" "values" "[I"]
def wsX6_isGood : List Cond := .code yX6_isGood cX6_isGood 2 (some .boolean) :: ((wsX6_isGood_r1 ++ wsX6_isGood_r2) ++ wsX60 ++ wsX20 ++ wsX10 ++ (vx_atS RX6 74 "java/lang/IndexOutOfBoundsException" ["java/lang/RuntimeException", "java/lang/Exception"]).filter goodWord)
def wsX6_weakest_r1 : List Cond := [Cond.fieldLink RX6 28 "TypingCoach" "lettersIn" "LTypingCoach$LettersIn;", Cond.methodLink RX6 112 yX4_weakestOfAll, Cond.instanceMethod yX4_weakestOfAll, Cond.selects RX4 yX4_weakestOfAll yX4_weakestOfAll, Cond.initialized RX4, Cond.code yX4_weakestOfAll cX4_weakestOfAll 3 (some .int), Cond.fieldLink RX4 15 "TypingCoach$LettersIn" "figures" "LTypingCoach$Figures;", Cond.methodLink RX4 19 yX4_contains, Cond.instanceMethod yX4_contains, Cond.selects RX4 yX4_contains yX4_contains, Cond.code yX4_contains cX4_contains 2 (some .boolean), Cond.fieldLink RX4 9 "TypingCoach$LettersIn" "in" "[Z", Cond.methodLink RX4 23 yX2_isWeaker, Cond.instanceMethod yX2_isWeaker, Cond.selects RX2 yX2_isWeaker yX2_isWeaker, Cond.initialized RX2, Cond.code yX2_isWeaker cX2_isWeaker 3 (some .boolean), Cond.fieldLink RX2 23 "TypingCoach$Figures" "shares" "LTypingCoach$Cells;", Cond.fieldLink RX2 20 "TypingCoach$Figures" "times" "LTypingCoach$Cells;", Cond.methodLink RX2 39 yX1_at, Cond.instanceMethod yX1_at, Cond.selects RX1 yX1_at yX1_at, Cond.initialized RX1, Cond.code yX1_at cX1_at 2 (some .int)]
def wsX6_weakest_r2 : List Cond := [Cond.fieldLink RX1 15 "TypingCoach$Cells" "values" "[I"]
def wsX6_weakest : List Cond := .code yX6_weakest cX6_weakest 1 (some .int) :: ((wsX6_weakest_r1 ++ wsX6_weakest_r2) ++ wsX60 ++ wsX40 ++ wsX20 ++ wsX10)
def wsX6_lessons : List Cond := .code yX6_lessons cX6_lessons 1 (some .int) :: ([.fieldLink RX6 42 "TypingCoach" "speeds" "LTypingCoach$Speeds;"] ++ wsX60 ++ wsX50)
def wsX6_speedOf : List Cond := .code yX6_speedOf cX6_speedOf 2 (some .int) :: ([.classLink RX6 70 "java/lang/IndexOutOfBoundsException", .initialized "java/lang/IndexOutOfBoundsException", .fieldLink RX6 42 "TypingCoach" "speeds" "LTypingCoach$Speeds;", .methodLink RX6 66 yX6_isWithin, .static yX6_isWithin, .initialized RX6, .code yX6_isWithin cX6_isWithin 3 (some .boolean), .methodLink RX6 175 yX1_at, .instanceMethod yX1_at, .selects RX1 yX1_at yX1_at, .initialized RX1, .code yX1_at cX1_at 2 (some .int), .fieldLink RX1 15 "TypingCoach$Cells" "values" "[I"] ++ wsX60 ++ wsX50 ++ wsX10 ++ (vx_atS RX6 74 "java/lang/IndexOutOfBoundsException" ["java/lang/RuntimeException", "java/lang/Exception"]).filter goodWord)
def wsX6_falls : List Cond := .code yX6_falls cX6_falls 1 (some .int) :: ([.fieldLink RX6 42 "TypingCoach" "speeds" "LTypingCoach$Speeds;", .methodLink RX6 212 yX5_fallsAtTheEnd, .instanceMethod yX5_fallsAtTheEnd, .selects RX5 yX5_fallsAtTheEnd yX5_fallsAtTheEnd, .initialized RX5, .code yX5_fallsAtTheEnd cX5_fallsAtTheEnd 3 (some .int), .fieldLink RX5 20 "TypingCoach$Speeds" "size" "I", .fieldLink RX5 14 "TypingCoach$Speeds" "kept" "LTypingCoach$Cells;", .methodLink RX5 27 yX1_at, .instanceMethod yX1_at, .selects RX1 yX1_at yX1_at, .initialized RX1, .code yX1_at cX1_at 2 (some .int), .fieldLink RX1 15 "TypingCoach$Cells" "values" "[I"] ++ wsX60 ++ wsX50 ++ wsX10)
def wsX6_endDay : List Cond := .code yX6_endDay cX6_endDay 2 (some .int) :: ([.fieldLink RX6 58 "TypingCoach" "strokesOfDay" "I", .fieldLink RX6 19 "TypingCoach" "figures" "LTypingCoach$Figures;", .methodLink RX6 215 yX2_halveCounts, .instanceMethod yX2_halveCounts, .selects RX2 yX2_halveCounts yX2_halveCounts, .initialized RX2, .code yX2_halveCounts cX2_halveCounts 2 none, .fieldLink RX2 14 "TypingCoach$Figures" "counts" "LTypingCoach$Cells;", .methodLink RX2 39 yX1_at, .instanceMethod yX1_at, .selects RX1 yX1_at yX1_at, .initialized RX1, .code yX1_at cX1_at 2 (some .int), .fieldLink RX1 15 "TypingCoach$Cells" "values" "[I", .methodLink RX2 47 yX1_set, .instanceMethod yX1_set, .selects RX1 yX1_set yX1_set, .code yX1_set cX1_set 3 none] ++ wsX60 ++ wsX20 ++ wsX10)
def wsX6_strokes : List Cond := .code yX6_strokes cX6_strokes 1 (some .int) :: ([.fieldLink RX6 58 "TypingCoach" "strokesOfDay" "I"] ++ wsX60)
def wsX7_init : List Cond := .code yX7_init cX7_init 2 none :: ([.methodLink RX7 1 objectInit, .instanceMethod objectInit, .code objectInit ⟨#[0xb1]⟩ 1 none, .arrayClass .int, .fieldLink RX7 7 "TypingCoachModel" "places" "[I", .fieldLink RX7 13 "TypingCoachModel" "counts" "[I", .fieldLink RX7 16 "TypingCoachModel" "times" "[I", .fieldLink RX7 19 "TypingCoachModel" "shares" "[I", .arrayClass .boolean, .fieldLink RX7 22 "TypingCoachModel" "areIn" "[Z", .fieldLink RX7 26 "TypingCoachModel" "pairs" "[I", .fieldLink RX7 29 "TypingCoachModel" "wanted" "[I", .fieldLink RX7 32 "TypingCoachModel" "typed" "[I", .fieldLink RX7 35 "TypingCoachModel" "errors" "[I", .fieldLink RX7 38 "TypingCoachModel" "byFinger" "[I", .fieldLink RX7 41 "TypingCoachModel" "wishedTime" "I", .fieldLink RX7 45 "TypingCoachModel" "wishedShare" "I", .fieldLink RX7 48 "TypingCoachModel" "speeds" "[I"] ++ wsX70)
def wsX7_thrown : List Cond := .code yX7_thrown cX7_thrown 1 (some .int) :: ([.fieldLink RX7 51 "TypingCoachModel" "thrown" "I"] ++ wsX70)
def wsX7_holds : List Cond := .code yX7_holds cX7_holds 2 (some .boolean) :: ([.fieldLink RX7 51 "TypingCoachModel" "thrown" "I"] ++ wsX70)
def wsX7_in : List Cond := .code yX7_in cX7_in 3 (some .boolean) :: ([])
def wsX7_isLetter : List Cond := .code yX7_isLetter cX7_isLetter 1 (some .boolean) :: ([.methodLink RX7 54 yX7_in, .static yX7_in, .initialized RX7, .code yX7_in cX7_in 3 (some .boolean)])
def wsX7_letterAt : List Cond := .code yX7_letterAt cX7_letterAt 3 (some .int) :: ([.fieldLink RX7 7 "TypingCoachModel" "places" "[I"] ++ wsX70)
def wsX7_put : List Cond := .code yX7_put cX7_put 6 (some .int) :: ([.fieldLink RX7 7 "TypingCoachModel" "places" "[I", .methodLink RX7 58 yX7_isLetter, .static yX7_isLetter, .initialized RX7, .code yX7_isLetter cX7_isLetter 1 (some .boolean), .methodLink RX7 54 yX7_in, .static yX7_in, .code yX7_in cX7_in 3 (some .boolean), .methodLink RX7 62 yX7_holds, .instanceMethod yX7_holds, .selects RX7 yX7_holds yX7_holds, .code yX7_holds cX7_holds 2 (some .boolean), .fieldLink RX7 51 "TypingCoachModel" "thrown" "I", .methodLink RX7 65 yX7_letterAt, .instanceMethod yX7_letterAt, .selects RX7 yX7_letterAt yX7_letterAt, .code yX7_letterAt cX7_letterAt 3 (some .int)] ++ wsX70)
def wsX7_fingerOf : List Cond := .code yX7_fingerOf cX7_fingerOf 3 (some .int) :: ([.fieldLink RX7 7 "TypingCoachModel" "places" "[I"] ++ wsX70)
def wsX7_finger : List Cond := .code yX7_finger cX7_finger 2 (some .int) :: ([.methodLink RX7 58 yX7_isLetter, .static yX7_isLetter, .initialized RX7, .code yX7_isLetter cX7_isLetter 1 (some .boolean), .methodLink RX7 54 yX7_in, .static yX7_in, .code yX7_in cX7_in 3 (some .boolean), .methodLink RX7 62 yX7_holds, .instanceMethod yX7_holds, .selects RX7 yX7_holds yX7_holds, .code yX7_holds cX7_holds 2 (some .boolean), .fieldLink RX7 51 "TypingCoachModel" "thrown" "I", .methodLink RX7 69 yX7_fingerOf, .instanceMethod yX7_fingerOf, .selects RX7 yX7_fingerOf yX7_fingerOf, .code yX7_fingerOf cX7_fingerOf 3 (some .int), .fieldLink RX7 7 "TypingCoachModel" "places" "[I"] ++ wsX70)
def wsX7_isBeside : List Cond := .code yX7_isBeside cX7_isBeside 5 (some .boolean) :: ([.fieldLink RX7 7 "TypingCoachModel" "places" "[I", .methodLink RX7 54 yX7_in, .static yX7_in, .initialized RX7, .code yX7_in cX7_in 3 (some .boolean)] ++ wsX70)
def wsX7_areBeside : List Cond := .code yX7_areBeside cX7_areBeside 3 (some .boolean) :: ([.methodLink RX7 58 yX7_isLetter, .static yX7_isLetter, .initialized RX7, .code yX7_isLetter cX7_isLetter 1 (some .boolean), .methodLink RX7 54 yX7_in, .static yX7_in, .code yX7_in cX7_in 3 (some .boolean), .methodLink RX7 62 yX7_holds, .instanceMethod yX7_holds, .selects RX7 yX7_holds yX7_holds, .code yX7_holds cX7_holds 2 (some .boolean), .fieldLink RX7 51 "TypingCoachModel" "thrown" "I", .methodLink RX7 72 yX7_isBeside, .instanceMethod yX7_isBeside, .selects RX7 yX7_isBeside yX7_isBeside, .code yX7_isBeside cX7_isBeside 5 (some .boolean), .fieldLink RX7 7 "TypingCoachModel" "places" "[I"] ++ wsX70)
def wsX7_mirrorOf : List Cond := .code yX7_mirrorOf cX7_mirrorOf 2 (some .int) :: ([.fieldLink RX7 7 "TypingCoachModel" "places" "[I"] ++ wsX70)
def wsX7_mirror : List Cond := .code yX7_mirror cX7_mirror 2 (some .int) :: ([.methodLink RX7 58 yX7_isLetter, .static yX7_isLetter, .initialized RX7, .code yX7_isLetter cX7_isLetter 1 (some .boolean), .methodLink RX7 54 yX7_in, .static yX7_in, .code yX7_in cX7_in 3 (some .boolean), .methodLink RX7 62 yX7_holds, .instanceMethod yX7_holds, .selects RX7 yX7_holds yX7_holds, .code yX7_holds cX7_holds 2 (some .boolean), .fieldLink RX7 51 "TypingCoachModel" "thrown" "I", .methodLink RX7 76 yX7_mirrorOf, .instanceMethod yX7_mirrorOf, .selects RX7 yX7_mirrorOf yX7_mirrorOf, .code yX7_mirrorOf cX7_mirrorOf 2 (some .int), .fieldLink RX7 7 "TypingCoachModel" "places" "[I", .methodLink RX7 65 yX7_letterAt, .instanceMethod yX7_letterAt, .selects RX7 yX7_letterAt yX7_letterAt, .code yX7_letterAt cX7_letterAt 3 (some .int)] ++ wsX70)
def wsX7_wants : List Cond := .code yX7_wants cX7_wants 2 none :: ([.fieldLink RX7 29 "TypingCoachModel" "wanted" "[I", .fieldLink RX7 79 "TypingCoachModel" "many" "I"] ++ wsX70)
def wsX7_want : List Cond := .code yX7_want cX7_want 2 (some .int) :: ([.fieldLink RX7 79 "TypingCoachModel" "many" "I", .methodLink RX7 58 yX7_isLetter, .static yX7_isLetter, .initialized RX7, .code yX7_isLetter cX7_isLetter 1 (some .boolean), .methodLink RX7 54 yX7_in, .static yX7_in, .code yX7_in cX7_in 3 (some .boolean), .methodLink RX7 62 yX7_holds, .instanceMethod yX7_holds, .selects RX7 yX7_holds yX7_holds, .code yX7_holds cX7_holds 2 (some .boolean), .fieldLink RX7 51 "TypingCoachModel" "thrown" "I", .methodLink RX7 82 yX7_wants, .instanceMethod yX7_wants, .selects RX7 yX7_wants yX7_wants, .code yX7_wants cX7_wants 2 none, .fieldLink RX7 29 "TypingCoachModel" "wanted" "[I"] ++ wsX70)
def wsX7_weakestOf : List Cond := .code yX7_weakestOf cX7_weakestOf 4 (some .int) :: ([.fieldLink RX7 19 "TypingCoachModel" "shares" "[I", .fieldLink RX7 16 "TypingCoachModel" "times" "[I", .fieldLink RX7 22 "TypingCoachModel" "areIn" "[Z"] ++ wsX70)
def wsX7_behind : List Cond := .code yX7_behind cX7_behind 5 (some .int) :: ([.fieldLink RX7 22 "TypingCoachModel" "areIn" "[Z", .fieldLink RX7 26 "TypingCoachModel" "pairs" "[I"] ++ wsX70)
def wsX7_drill_r1 : List Cond := [Cond.fieldLink RX7 79 "TypingCoachModel" "many" "I", Cond.methodLink RX7 54 yX7_in, Cond.static yX7_in, Cond.initialized RX7, Cond.code yX7_in cX7_in 3 (some .boolean), Cond.methodLink RX7 62 yX7_holds, Cond.instanceMethod yX7_holds, Cond.selects RX7 yX7_holds yX7_holds, Cond.code yX7_holds cX7_holds 2 (some .boolean), Cond.fieldLink RX7 51 "TypingCoachModel" "thrown" "I", Cond.methodLink RX7 86 yX7_weakestOf, Cond.instanceMethod yX7_weakestOf, Cond.selects RX7 yX7_weakestOf yX7_weakestOf, Cond.code yX7_weakestOf cX7_weakestOf 4 (some .int), Cond.fieldLink RX7 19 "TypingCoachModel" "shares" "[I", Cond.fieldLink RX7 16 "TypingCoachModel" "times" "[I", Cond.fieldLink RX7 22 "TypingCoachModel" "areIn" "[Z", Cond.methodLink RX7 82 yX7_wants, Cond.instanceMethod yX7_wants, Cond.selects RX7 yX7_wants yX7_wants, Cond.code yX7_wants cX7_wants 2 none, Cond.fieldLink RX7 29 "TypingCoachModel" "wanted" "[I", Cond.methodLink RX7 90 yX7_behind, Cond.instanceMethod yX7_behind]
def wsX7_drill_r2 : List Cond := [Cond.selects RX7 yX7_behind yX7_behind, Cond.code yX7_behind cX7_behind 5 (some .int), Cond.fieldLink RX7 26 "TypingCoachModel" "pairs" "[I"]
def wsX7_drill : List Cond := .code yX7_drill cX7_drill 4 (some .int) :: ((wsX7_drill_r1 ++ wsX7_drill_r2) ++ wsX70)
def wsX7_wanted : List Cond := .code yX7_wanted cX7_wanted 1 (some .int) :: ([.fieldLink RX7 51 "TypingCoachModel" "thrown" "I", .fieldLink RX7 79 "TypingCoachModel" "many" "I"] ++ wsX70)
def wsX7_wantedAt : List Cond := .code yX7_wantedAt cX7_wantedAt 2 (some .int) :: ([.fieldLink RX7 79 "TypingCoachModel" "many" "I", .fieldLink RX7 29 "TypingCoachModel" "wanted" "[I", .methodLink RX7 54 yX7_in, .static yX7_in, .initialized RX7, .code yX7_in cX7_in 3 (some .boolean), .methodLink RX7 62 yX7_holds, .instanceMethod yX7_holds, .selects RX7 yX7_holds yX7_holds, .code yX7_holds cX7_holds 2 (some .boolean), .fieldLink RX7 51 "TypingCoachModel" "thrown" "I"] ++ wsX70)
def wsX7_position : List Cond := .code yX7_position cX7_position 1 (some .int) :: ([.fieldLink RX7 51 "TypingCoachModel" "thrown" "I", .fieldLink RX7 93 "TypingCoachModel" "position" "I"] ++ wsX70)
def wsX7_errorOf : List Cond := .code yX7_errorOf cX7_errorOf 3 (some .int) :: ([.fieldLink RX7 29 "TypingCoachModel" "wanted" "[I", .fieldLink RX7 93 "TypingCoachModel" "position" "I", .fieldLink RX7 32 "TypingCoachModel" "typed" "[I", .fieldLink RX7 79 "TypingCoachModel" "many" "I", .fieldLink RX7 7 "TypingCoachModel" "places" "[I", .methodLink RX7 72 yX7_isBeside, .instanceMethod yX7_isBeside, .selects RX7 yX7_isBeside yX7_isBeside, .initialized RX7, .code yX7_isBeside cX7_isBeside 5 (some .boolean), .methodLink RX7 54 yX7_in, .static yX7_in, .code yX7_in cX7_in 3 (some .boolean), .methodLink RX7 76 yX7_mirrorOf, .instanceMethod yX7_mirrorOf, .selects RX7 yX7_mirrorOf yX7_mirrorOf, .code yX7_mirrorOf cX7_mirrorOf 2 (some .int)] ++ wsX70)
def wsX7_stroke_r1 : List Cond := [Cond.fieldLink RX7 93 "TypingCoachModel" "position" "I", Cond.fieldLink RX7 79 "TypingCoachModel" "many" "I", Cond.fieldLink RX7 29 "TypingCoachModel" "wanted" "[I", Cond.fieldLink RX7 13 "TypingCoachModel" "counts" "[I", Cond.fieldLink RX7 16 "TypingCoachModel" "times" "[I", Cond.fieldLink RX7 19 "TypingCoachModel" "shares" "[I", Cond.fieldLink RX7 26 "TypingCoachModel" "pairs" "[I", Cond.fieldLink RX7 35 "TypingCoachModel" "errors" "[I", Cond.fieldLink RX7 38 "TypingCoachModel" "byFinger" "[I", Cond.fieldLink RX7 32 "TypingCoachModel" "typed" "[I", Cond.fieldLink RX7 99 "TypingCoachModel" "spent" "I", Cond.fieldLink RX7 102 "TypingCoachModel" "strokes" "I", Cond.methodLink RX7 58 yX7_isLetter, Cond.static yX7_isLetter, Cond.initialized RX7, Cond.code yX7_isLetter cX7_isLetter 1 (some .boolean), Cond.methodLink RX7 54 yX7_in, Cond.static yX7_in, Cond.code yX7_in cX7_in 3 (some .boolean), Cond.methodLink RX7 62 yX7_holds, Cond.instanceMethod yX7_holds, Cond.selects RX7 yX7_holds yX7_holds, Cond.code yX7_holds cX7_holds 2 (some .boolean), Cond.fieldLink RX7 51 "TypingCoachModel" "thrown" "I"]
def wsX7_stroke_r2 : List Cond := [Cond.methodLink RX7 96 yX7_errorOf, Cond.instanceMethod yX7_errorOf, Cond.selects RX7 yX7_errorOf yX7_errorOf, Cond.code yX7_errorOf cX7_errorOf 3 (some .int), Cond.fieldLink RX7 7 "TypingCoachModel" "places" "[I", Cond.methodLink RX7 72 yX7_isBeside, Cond.instanceMethod yX7_isBeside, Cond.selects RX7 yX7_isBeside yX7_isBeside, Cond.code yX7_isBeside cX7_isBeside 5 (some .boolean), Cond.methodLink RX7 76 yX7_mirrorOf, Cond.instanceMethod yX7_mirrorOf, Cond.selects RX7 yX7_mirrorOf yX7_mirrorOf, Cond.code yX7_mirrorOf cX7_mirrorOf 2 (some .int), Cond.methodLink RX7 69 yX7_fingerOf, Cond.instanceMethod yX7_fingerOf, Cond.selects RX7 yX7_fingerOf yX7_fingerOf, Cond.code yX7_fingerOf cX7_fingerOf 3 (some .int)]
def wsX7_stroke : List Cond := .code yX7_stroke cX7_stroke 7 (some .int) :: ((wsX7_stroke_r1 ++ wsX7_stroke_r2) ++ wsX70)
def wsX7_back : List Cond := .code yX7_back cX7_back 2 (some .int) :: ([.fieldLink RX7 93 "TypingCoachModel" "position" "I", .fieldLink RX7 105 "TypingCoachModel" "mended" "I", .fieldLink RX7 99 "TypingCoachModel" "spent" "I", .methodLink RX7 54 yX7_in, .static yX7_in, .initialized RX7, .code yX7_in cX7_in 3 (some .boolean), .methodLink RX7 62 yX7_holds, .instanceMethod yX7_holds, .selects RX7 yX7_holds yX7_holds, .code yX7_holds cX7_holds 2 (some .boolean), .fieldLink RX7 51 "TypingCoachModel" "thrown" "I"] ++ wsX70)
def wsX7_speedNow : List Cond := .code yX7_speedNow cX7_speedNow 3 (some .int) :: ([.fieldLink RX7 93 "TypingCoachModel" "position" "I", .fieldLink RX7 32 "TypingCoachModel" "typed" "[I", .fieldLink RX7 29 "TypingCoachModel" "wanted" "[I", .fieldLink RX7 99 "TypingCoachModel" "spent" "I", .constant RX7 108 (60000)] ++ wsX70)
def wsX7_speed : List Cond := .code yX7_speed cX7_speed 1 (some .int) :: ([.fieldLink RX7 51 "TypingCoachModel" "thrown" "I", .methodLink RX7 109 yX7_speedNow, .instanceMethod yX7_speedNow, .selects RX7 yX7_speedNow yX7_speedNow, .initialized RX7, .code yX7_speedNow cX7_speedNow 3 (some .int), .fieldLink RX7 93 "TypingCoachModel" "position" "I", .fieldLink RX7 32 "TypingCoachModel" "typed" "[I", .fieldLink RX7 29 "TypingCoachModel" "wanted" "[I", .fieldLink RX7 99 "TypingCoachModel" "spent" "I", .constant RX7 108 (60000)] ++ wsX70)
def wsX7_mended : List Cond := .code yX7_mended cX7_mended 1 (some .int) :: ([.fieldLink RX7 51 "TypingCoachModel" "thrown" "I", .fieldLink RX7 105 "TypingCoachModel" "mended" "I"] ++ wsX70)
def wsX7_isGoodOne : List Cond := .code yX7_isGoodOne cX7_isGoodOne 2 (some .boolean) :: ([.fieldLink RX7 13 "TypingCoachModel" "counts" "[I", .fieldLink RX7 16 "TypingCoachModel" "times" "[I", .fieldLink RX7 41 "TypingCoachModel" "wishedTime" "I", .fieldLink RX7 19 "TypingCoachModel" "shares" "[I", .fieldLink RX7 45 "TypingCoachModel" "wishedShare" "I"] ++ wsX70)
def wsX7_takesOut : List Cond := .code yX7_takesOut cX7_takesOut 3 (some .boolean) :: ([.fieldLink RX7 22 "TypingCoachModel" "areIn" "[Z", .fieldLink RX7 13 "TypingCoachModel" "counts" "[I", .fieldLink RX7 19 "TypingCoachModel" "shares" "[I", .fieldLink RX7 16 "TypingCoachModel" "times" "[I"] ++ wsX70)
def wsX7_letsIn : List Cond := .code yX7_letsIn cX7_letsIn 3 (some .int) :: ([.fieldLink RX7 22 "TypingCoachModel" "areIn" "[Z", .methodLink RX7 112 yX7_isGoodOne, .instanceMethod yX7_isGoodOne, .selects RX7 yX7_isGoodOne yX7_isGoodOne, .initialized RX7, .code yX7_isGoodOne cX7_isGoodOne 2 (some .boolean), .fieldLink RX7 13 "TypingCoachModel" "counts" "[I", .fieldLink RX7 16 "TypingCoachModel" "times" "[I", .fieldLink RX7 41 "TypingCoachModel" "wishedTime" "I", .fieldLink RX7 19 "TypingCoachModel" "shares" "[I", .fieldLink RX7 45 "TypingCoachModel" "wishedShare" "I"] ++ wsX70)
def wsX7_end_r1 : List Cond := [Cond.fieldLink RX7 115 "TypingCoachModel" "lessons" "I", Cond.fieldLink RX7 48 "TypingCoachModel" "speeds" "[I", Cond.fieldLink RX7 79 "TypingCoachModel" "many" "I", Cond.fieldLink RX7 93 "TypingCoachModel" "position" "I", Cond.fieldLink RX7 99 "TypingCoachModel" "spent" "I", Cond.fieldLink RX7 105 "TypingCoachModel" "mended" "I", Cond.methodLink RX7 62 yX7_holds, Cond.instanceMethod yX7_holds, Cond.selects RX7 yX7_holds yX7_holds, Cond.initialized RX7, Cond.code yX7_holds cX7_holds 2 (some .boolean), Cond.fieldLink RX7 51 "TypingCoachModel" "thrown" "I", Cond.methodLink RX7 118 yX7_takesOut, Cond.instanceMethod yX7_takesOut, Cond.selects RX7 yX7_takesOut yX7_takesOut, Cond.code yX7_takesOut cX7_takesOut 3 (some .boolean), Cond.fieldLink RX7 22 "TypingCoachModel" "areIn" "[Z", Cond.fieldLink RX7 13 "TypingCoachModel" "counts" "[I", Cond.fieldLink RX7 19 "TypingCoachModel" "shares" "[I", Cond.fieldLink RX7 16 "TypingCoachModel" "times" "[I", Cond.methodLink RX7 122 yX7_letsIn, Cond.instanceMethod yX7_letsIn, Cond.selects RX7 yX7_letsIn yX7_letsIn, Cond.code yX7_letsIn cX7_letsIn 3 (some .int)]
def wsX7_end_r2 : List Cond := [Cond.methodLink RX7 112 yX7_isGoodOne, Cond.instanceMethod yX7_isGoodOne, Cond.selects RX7 yX7_isGoodOne yX7_isGoodOne, Cond.code yX7_isGoodOne cX7_isGoodOne 2 (some .boolean), Cond.fieldLink RX7 41 "TypingCoachModel" "wishedTime" "I", Cond.fieldLink RX7 45 "TypingCoachModel" "wishedShare" "I", Cond.methodLink RX7 109 yX7_speedNow, Cond.instanceMethod yX7_speedNow, Cond.selects RX7 yX7_speedNow yX7_speedNow, Cond.code yX7_speedNow cX7_speedNow 3 (some .int), Cond.fieldLink RX7 32 "TypingCoachModel" "typed" "[I", Cond.fieldLink RX7 29 "TypingCoachModel" "wanted" "[I", Cond.constant RX7 108 (60000)]
def wsX7_end : List Cond := .code yX7_end cX7_end 2 (some .int) :: ((wsX7_end_r1 ++ wsX7_end_r2) ++ wsX70)
def wsX7_count : List Cond := .code yX7_count cX7_count 2 (some .int) :: ([.fieldLink RX7 13 "TypingCoachModel" "counts" "[I", .methodLink RX7 58 yX7_isLetter, .static yX7_isLetter, .initialized RX7, .code yX7_isLetter cX7_isLetter 1 (some .boolean), .methodLink RX7 54 yX7_in, .static yX7_in, .code yX7_in cX7_in 3 (some .boolean), .methodLink RX7 62 yX7_holds, .instanceMethod yX7_holds, .selects RX7 yX7_holds yX7_holds, .code yX7_holds cX7_holds 2 (some .boolean), .fieldLink RX7 51 "TypingCoachModel" "thrown" "I"] ++ wsX70)
def wsX7_time : List Cond := .code yX7_time cX7_time 2 (some .int) :: ([.fieldLink RX7 16 "TypingCoachModel" "times" "[I", .methodLink RX7 58 yX7_isLetter, .static yX7_isLetter, .initialized RX7, .code yX7_isLetter cX7_isLetter 1 (some .boolean), .methodLink RX7 54 yX7_in, .static yX7_in, .code yX7_in cX7_in 3 (some .boolean), .methodLink RX7 62 yX7_holds, .instanceMethod yX7_holds, .selects RX7 yX7_holds yX7_holds, .code yX7_holds cX7_holds 2 (some .boolean), .fieldLink RX7 51 "TypingCoachModel" "thrown" "I"] ++ wsX70)
def wsX7_share : List Cond := .code yX7_share cX7_share 2 (some .int) :: ([.fieldLink RX7 19 "TypingCoachModel" "shares" "[I", .methodLink RX7 58 yX7_isLetter, .static yX7_isLetter, .initialized RX7, .code yX7_isLetter cX7_isLetter 1 (some .boolean), .methodLink RX7 54 yX7_in, .static yX7_in, .code yX7_in cX7_in 3 (some .boolean), .methodLink RX7 62 yX7_holds, .instanceMethod yX7_holds, .selects RX7 yX7_holds yX7_holds, .code yX7_holds cX7_holds 2 (some .boolean), .fieldLink RX7 51 "TypingCoachModel" "thrown" "I"] ++ wsX70)
def wsX7_pairTime : List Cond := .code yX7_pairTime cX7_pairTime 3 (some .int) :: ([.fieldLink RX7 26 "TypingCoachModel" "pairs" "[I", .methodLink RX7 58 yX7_isLetter, .static yX7_isLetter, .initialized RX7, .code yX7_isLetter cX7_isLetter 1 (some .boolean), .methodLink RX7 54 yX7_in, .static yX7_in, .code yX7_in cX7_in 3 (some .boolean), .methodLink RX7 62 yX7_holds, .instanceMethod yX7_holds, .selects RX7 yX7_holds yX7_holds, .code yX7_holds cX7_holds 2 (some .boolean), .fieldLink RX7 51 "TypingCoachModel" "thrown" "I"] ++ wsX70)
def wsX7_errors : List Cond := .code yX7_errors cX7_errors 2 (some .int) :: ([.fieldLink RX7 35 "TypingCoachModel" "errors" "[I", .methodLink RX7 54 yX7_in, .static yX7_in, .initialized RX7, .code yX7_in cX7_in 3 (some .boolean), .methodLink RX7 62 yX7_holds, .instanceMethod yX7_holds, .selects RX7 yX7_holds yX7_holds, .code yX7_holds cX7_holds 2 (some .boolean), .fieldLink RX7 51 "TypingCoachModel" "thrown" "I"] ++ wsX70)
def wsX7_errorsOf : List Cond := .code yX7_errorsOf cX7_errorsOf 2 (some .int) :: ([.fieldLink RX7 38 "TypingCoachModel" "byFinger" "[I", .methodLink RX7 54 yX7_in, .static yX7_in, .initialized RX7, .code yX7_in cX7_in 3 (some .boolean), .methodLink RX7 62 yX7_holds, .instanceMethod yX7_holds, .selects RX7 yX7_holds yX7_holds, .code yX7_holds cX7_holds 2 (some .boolean), .fieldLink RX7 51 "TypingCoachModel" "thrown" "I"] ++ wsX70)
def wsX7_wish : List Cond := .code yX7_wish cX7_wish 3 none :: ([.fieldLink RX7 41 "TypingCoachModel" "wishedTime" "I", .fieldLink RX7 45 "TypingCoachModel" "wishedShare" "I", .methodLink RX7 54 yX7_in, .static yX7_in, .initialized RX7, .code yX7_in cX7_in 3 (some .boolean), .methodLink RX7 62 yX7_holds, .instanceMethod yX7_holds, .selects RX7 yX7_holds yX7_holds, .code yX7_holds cX7_holds 2 (some .boolean), .fieldLink RX7 51 "TypingCoachModel" "thrown" "I"] ++ wsX70)
def wsX7_isIn : List Cond := .code yX7_isIn cX7_isIn 2 (some .boolean) :: ([.fieldLink RX7 22 "TypingCoachModel" "areIn" "[Z", .methodLink RX7 58 yX7_isLetter, .static yX7_isLetter, .initialized RX7, .code yX7_isLetter cX7_isLetter 1 (some .boolean), .methodLink RX7 54 yX7_in, .static yX7_in, .code yX7_in cX7_in 3 (some .boolean), .methodLink RX7 62 yX7_holds, .instanceMethod yX7_holds, .selects RX7 yX7_holds yX7_holds, .code yX7_holds cX7_holds 2 (some .boolean), .fieldLink RX7 51 "TypingCoachModel" "thrown" "I"] ++ wsX70)
def wsX7_isGood : List Cond := .code yX7_isGood cX7_isGood 2 (some .boolean) :: ([.methodLink RX7 58 yX7_isLetter, .static yX7_isLetter, .initialized RX7, .code yX7_isLetter cX7_isLetter 1 (some .boolean), .methodLink RX7 54 yX7_in, .static yX7_in, .code yX7_in cX7_in 3 (some .boolean), .methodLink RX7 62 yX7_holds, .instanceMethod yX7_holds, .selects RX7 yX7_holds yX7_holds, .code yX7_holds cX7_holds 2 (some .boolean), .fieldLink RX7 51 "TypingCoachModel" "thrown" "I", .methodLink RX7 112 yX7_isGoodOne, .instanceMethod yX7_isGoodOne, .selects RX7 yX7_isGoodOne yX7_isGoodOne, .code yX7_isGoodOne cX7_isGoodOne 2 (some .boolean), .fieldLink RX7 13 "TypingCoachModel" "counts" "[I", .fieldLink RX7 16 "TypingCoachModel" "times" "[I", .fieldLink RX7 41 "TypingCoachModel" "wishedTime" "I", .fieldLink RX7 19 "TypingCoachModel" "shares" "[I", .fieldLink RX7 45 "TypingCoachModel" "wishedShare" "I"] ++ wsX70)
def wsX7_weakest : List Cond := .code yX7_weakest cX7_weakest 1 (some .int) :: ([.fieldLink RX7 51 "TypingCoachModel" "thrown" "I", .methodLink RX7 86 yX7_weakestOf, .instanceMethod yX7_weakestOf, .selects RX7 yX7_weakestOf yX7_weakestOf, .initialized RX7, .code yX7_weakestOf cX7_weakestOf 4 (some .int), .fieldLink RX7 19 "TypingCoachModel" "shares" "[I", .fieldLink RX7 16 "TypingCoachModel" "times" "[I", .fieldLink RX7 22 "TypingCoachModel" "areIn" "[Z"] ++ wsX70)
def wsX7_lessons : List Cond := .code yX7_lessons cX7_lessons 1 (some .int) :: ([.fieldLink RX7 51 "TypingCoachModel" "thrown" "I", .fieldLink RX7 115 "TypingCoachModel" "lessons" "I"] ++ wsX70)
def wsX7_speedOf : List Cond := .code yX7_speedOf cX7_speedOf 2 (some .int) :: ([.fieldLink RX7 115 "TypingCoachModel" "lessons" "I", .fieldLink RX7 48 "TypingCoachModel" "speeds" "[I", .methodLink RX7 54 yX7_in, .static yX7_in, .initialized RX7, .code yX7_in cX7_in 3 (some .boolean), .methodLink RX7 62 yX7_holds, .instanceMethod yX7_holds, .selects RX7 yX7_holds yX7_holds, .code yX7_holds cX7_holds 2 (some .boolean), .fieldLink RX7 51 "TypingCoachModel" "thrown" "I"] ++ wsX70)
def wsX7_falls : List Cond := .code yX7_falls cX7_falls 2 (some .int) :: ([.fieldLink RX7 51 "TypingCoachModel" "thrown" "I", .fieldLink RX7 115 "TypingCoachModel" "lessons" "I", .fieldLink RX7 48 "TypingCoachModel" "speeds" "[I"] ++ wsX70)
def wsX7_endDay : List Cond := .code yX7_endDay cX7_endDay 3 (some .int) :: ([.fieldLink RX7 51 "TypingCoachModel" "thrown" "I", .fieldLink RX7 102 "TypingCoachModel" "strokes" "I", .fieldLink RX7 13 "TypingCoachModel" "counts" "[I"] ++ wsX70)
def wsX7_strokes : List Cond := .code yX7_strokes cX7_strokes 1 (some .int) :: ([.fieldLink RX7 51 "TypingCoachModel" "thrown" "I", .fieldLink RX7 102 "TypingCoachModel" "strokes" "I"] ++ wsX70)
def wsJ9_abs_0f7a4 : List Cond := .code yJ9_abs_0f7a4 cJ9_abs_0f7a4 1 (some .int) :: ([])
def wsJ9_max_7cf53 : List Cond := .code yJ9_max_7cf53 cJ9_max_7cf53 2 (some .int) :: ([])
def wsL_put_r1 : List Cond := [Cond.classLink RL 13 "java/lang/IndexOutOfBoundsException", Cond.methodLink RL 7 yX6_put, Cond.instanceMethod yX6_put, Cond.selects RX6 yX6_put yX6_put, Cond.initialized RX6, Cond.code yX6_put cX6_put 4 (some .int), Cond.classLink RX6 70 "java/lang/IndexOutOfBoundsException", Cond.initialized "java/lang/IndexOutOfBoundsException", Cond.fieldLink RX6 10 "TypingCoach" "board" "LTypingCoach$Board;", Cond.methodLink RX6 62 yX6_needLetter, Cond.static yX6_needLetter, Cond.code yX6_needLetter cX6_needLetter 1 none, Cond.methodLink RX6 66 yX6_isWithin, Cond.static yX6_isWithin, Cond.code yX6_isWithin cX6_isWithin 3 (some .boolean), Cond.methodLink RX6 77 yX0_move, Cond.instanceMethod yX0_move, Cond.selects RX0 yX0_move yX0_move, Cond.initialized RX0, Cond.code yX0_move cX0_move 5 (some .int), Cond.fieldLink RX0 20 "TypingCoach$Board" "letterOfPlace" "LTypingCoach$Cells;", Cond.fieldLink RX0 14 "TypingCoach$Board" "placeOfLetter" "LTypingCoach$Cells;", Cond.methodLink RX0 26 yX1_at, Cond.instanceMethod yX1_at]
def wsL_put_r2 : List Cond := [Cond.selects RX1 yX1_at yX1_at, Cond.initialized RX1, Cond.code yX1_at cX1_at 2 (some .int), Cond.fieldLink RX1 15 "TypingCoach$Cells" "values" "[I", Cond.methodLink RX0 23 yX1_set, Cond.instanceMethod yX1_set, Cond.selects RX1 yX1_set yX1_set, Cond.code yX1_set cX1_set 3 none]
def wsL_put : List Cond := .codeWith yL_put cL_put 6 (some .int) [(0, 12, 15, 13)] :: ((wsL_put_r1 ++ wsL_put_r2) ++ wsX60 ++ wsX00 ++ wsX10 ++ (vx_atS RX6 74 "java/lang/IndexOutOfBoundsException" ["java/lang/RuntimeException", "java/lang/Exception"]).filter goodWord)
def wsL_finger_r1 : List Cond := [Cond.classLink RL 13 "java/lang/IndexOutOfBoundsException", Cond.methodLink RL 15 yX6_finger, Cond.instanceMethod yX6_finger, Cond.selects RX6 yX6_finger yX6_finger, Cond.initialized RX6, Cond.code yX6_finger cX6_finger 2 (some .int), Cond.fieldLink RX6 10 "TypingCoach" "board" "LTypingCoach$Board;", Cond.methodLink RX6 62 yX6_needLetter, Cond.static yX6_needLetter, Cond.code yX6_needLetter cX6_needLetter 1 none, Cond.classLink RX6 70 "java/lang/IndexOutOfBoundsException", Cond.initialized "java/lang/IndexOutOfBoundsException", Cond.methodLink RX6 66 yX6_isWithin, Cond.static yX6_isWithin, Cond.code yX6_isWithin cX6_isWithin 3 (some .boolean), Cond.methodLink RX6 81 yX0_fingerOf, Cond.instanceMethod yX0_fingerOf, Cond.selects RX0 yX0_fingerOf yX0_fingerOf, Cond.initialized RX0, Cond.code yX0_fingerOf cX0_fingerOf 3 (some .int), Cond.methodLink RX0 30 yX0_columnOf, Cond.instanceMethod yX0_columnOf, Cond.selects RX0 yX0_columnOf yX0_columnOf, Cond.code yX0_columnOf cX0_columnOf 2 (some .int)]
def wsL_finger_r2 : List Cond := [Cond.fieldLink RX0 14 "TypingCoach$Board" "placeOfLetter" "LTypingCoach$Cells;", Cond.methodLink RX0 26 yX1_at, Cond.instanceMethod yX1_at, Cond.selects RX1 yX1_at yX1_at, Cond.initialized RX1, Cond.code yX1_at cX1_at 2 (some .int), Cond.fieldLink RX1 15 "TypingCoach$Cells" "values" "[I"]
def wsL_finger : List Cond := .codeWith yL_finger cL_finger 4 (some .int) [(0, 9, 12, 13)] :: ((wsL_finger_r1 ++ wsL_finger_r2) ++ wsX60 ++ wsX00 ++ wsX10 ++ (vx_atS RX6 74 "java/lang/IndexOutOfBoundsException" ["java/lang/RuntimeException", "java/lang/Exception"]).filter goodWord)
def wsL_areBeside_r1 : List Cond := [Cond.classLink RL 13 "java/lang/IndexOutOfBoundsException", Cond.methodLink RL 19 yX6_areBeside, Cond.instanceMethod yX6_areBeside, Cond.selects RX6 yX6_areBeside yX6_areBeside, Cond.initialized RX6, Cond.code yX6_areBeside cX6_areBeside 3 (some .boolean), Cond.fieldLink RX6 10 "TypingCoach" "board" "LTypingCoach$Board;", Cond.methodLink RX6 62 yX6_needLetter, Cond.static yX6_needLetter, Cond.code yX6_needLetter cX6_needLetter 1 none, Cond.classLink RX6 70 "java/lang/IndexOutOfBoundsException", Cond.initialized "java/lang/IndexOutOfBoundsException", Cond.methodLink RX6 66 yX6_isWithin, Cond.static yX6_isWithin, Cond.code yX6_isWithin cX6_isWithin 3 (some .boolean), Cond.methodLink RX6 85 yX0_touch, Cond.instanceMethod yX0_touch, Cond.selects RX0 yX0_touch yX0_touch, Cond.initialized RX0, Cond.code yX0_touch cX0_touch 3 (some .boolean), Cond.methodLink RX0 37 Lib.Math.abs.name, Cond.static Lib.Math.abs.name, Cond.initialized "java/lang/Math", Cond.code Lib.Math.abs.name Lib.Math.abs.code 1 (some .int)]
def wsL_areBeside_r2 : List Cond := [Cond.methodLink RX0 30 yX0_columnOf, Cond.instanceMethod yX0_columnOf, Cond.selects RX0 yX0_columnOf yX0_columnOf, Cond.code yX0_columnOf cX0_columnOf 2 (some .int), Cond.fieldLink RX0 14 "TypingCoach$Board" "placeOfLetter" "LTypingCoach$Cells;", Cond.methodLink RX0 26 yX1_at, Cond.instanceMethod yX1_at, Cond.selects RX1 yX1_at yX1_at, Cond.initialized RX1, Cond.code yX1_at cX1_at 2 (some .int), Cond.fieldLink RX1 15 "TypingCoach$Cells" "values" "[I", Cond.methodLink RX0 42 yX0_rowOf, Cond.instanceMethod yX0_rowOf, Cond.selects RX0 yX0_rowOf yX0_rowOf, Cond.code yX0_rowOf cX0_rowOf 2 (some .int)]
def wsL_areBeside : List Cond := .codeWith yL_areBeside cL_areBeside 5 (some .int) [(0, 17, 20, 13)] :: ((wsL_areBeside_r1 ++ wsL_areBeside_r2) ++ wsX60 ++ wsX00 ++ wsX10 ++ (vx_atS RX6 74 "java/lang/IndexOutOfBoundsException" ["java/lang/RuntimeException", "java/lang/Exception"]).filter goodWord)
def wsL_mirror_r1 : List Cond := [Cond.classLink RL 13 "java/lang/IndexOutOfBoundsException", Cond.methodLink RL 23 yX6_mirror, Cond.instanceMethod yX6_mirror, Cond.selects RX6 yX6_mirror yX6_mirror, Cond.initialized RX6, Cond.code yX6_mirror cX6_mirror 2 (some .int), Cond.fieldLink RX6 10 "TypingCoach" "board" "LTypingCoach$Board;", Cond.methodLink RX6 62 yX6_needLetter, Cond.static yX6_needLetter, Cond.code yX6_needLetter cX6_needLetter 1 none, Cond.classLink RX6 70 "java/lang/IndexOutOfBoundsException", Cond.initialized "java/lang/IndexOutOfBoundsException", Cond.methodLink RX6 66 yX6_isWithin, Cond.static yX6_isWithin, Cond.code yX6_isWithin cX6_isWithin 3 (some .boolean), Cond.methodLink RX6 89 yX0_mirrorOf, Cond.instanceMethod yX0_mirrorOf, Cond.selects RX0 yX0_mirrorOf yX0_mirrorOf, Cond.initialized RX0, Cond.code yX0_mirrorOf cX0_mirrorOf 2 (some .int), Cond.fieldLink RX0 20 "TypingCoach$Board" "letterOfPlace" "LTypingCoach$Cells;", Cond.methodLink RX0 42 yX0_rowOf, Cond.instanceMethod yX0_rowOf, Cond.selects RX0 yX0_rowOf yX0_rowOf]
def wsL_mirror_r2 : List Cond := [Cond.code yX0_rowOf cX0_rowOf 2 (some .int), Cond.fieldLink RX0 14 "TypingCoach$Board" "placeOfLetter" "LTypingCoach$Cells;", Cond.methodLink RX0 26 yX1_at, Cond.instanceMethod yX1_at, Cond.selects RX1 yX1_at yX1_at, Cond.initialized RX1, Cond.code yX1_at cX1_at 2 (some .int), Cond.fieldLink RX1 15 "TypingCoach$Cells" "values" "[I", Cond.methodLink RX0 30 yX0_columnOf, Cond.instanceMethod yX0_columnOf, Cond.selects RX0 yX0_columnOf yX0_columnOf, Cond.code yX0_columnOf cX0_columnOf 2 (some .int)]
def wsL_mirror : List Cond := .codeWith yL_mirror cL_mirror 4 (some .int) [(0, 9, 12, 13)] :: ((wsL_mirror_r1 ++ wsL_mirror_r2) ++ wsX60 ++ wsX00 ++ wsX10 ++ (vx_atS RX6 74 "java/lang/IndexOutOfBoundsException" ["java/lang/RuntimeException", "java/lang/Exception"]).filter goodWord)
def wsL_want_r1 : List Cond := [Cond.classLink RL 13 "java/lang/IndexOutOfBoundsException", Cond.classLink RL 29 "java/lang/IllegalStateException", Cond.methodLink RL 26 yX6_want, Cond.instanceMethod yX6_want, Cond.selects RX6 yX6_want yX6_want, Cond.initialized RX6, Cond.code yX6_want cX6_want 2 (some .int), Cond.classLink RX6 96 "java/lang/IllegalStateException", Cond.initialized "java/lang/IllegalStateException", Cond.fieldLink RX6 35 "TypingCoach" "lesson" "LTypingCoach$Lesson;", Cond.methodLink RX6 62 yX6_needLetter, Cond.static yX6_needLetter, Cond.code yX6_needLetter cX6_needLetter 1 none, Cond.classLink RX6 70 "java/lang/IndexOutOfBoundsException", Cond.initialized "java/lang/IndexOutOfBoundsException", Cond.methodLink RX6 66 yX6_isWithin, Cond.static yX6_isWithin, Cond.code yX6_isWithin cX6_isWithin 3 (some .boolean), Cond.methodLink RX6 92 yX3_isFull, Cond.instanceMethod yX3_isFull, Cond.selects RX3 yX3_isFull yX3_isFull, Cond.initialized RX3, Cond.code yX3_isFull cX3_isFull 1 (some .boolean), Cond.fieldLink RX3 23 "TypingCoach$Lesson" "size" "I"]
def wsL_want_r2 : List Cond := [Cond.methodLink RX6 101 yX3_append, Cond.instanceMethod yX3_append, Cond.selects RX3 yX3_append yX3_append, Cond.code yX3_append cX3_append 2 none, Cond.fieldLink RX3 14 "TypingCoach$Lesson" "letters" "LTypingCoach$Cells;", Cond.methodLink RX3 36 yX1_set, Cond.instanceMethod yX1_set, Cond.selects RX1 yX1_set yX1_set, Cond.initialized RX1, Cond.code yX1_set cX1_set 3 none, Cond.fieldLink RX1 15 "TypingCoach$Cells" "values" "[I"]
def wsL_want : List Cond := .codeWith yL_want cL_want 4 (some .int) [(0, 9, 12, 13), (0, 9, 15, 29)] :: ((wsL_want_r1 ++ wsL_want_r2) ++ wsX60 ++ wsX30 ++ wsX10 ++ (vx_atS RX6 100 "java/lang/IllegalStateException" ["java/lang/RuntimeException", "java/lang/Exception"]).filter goodWord ++ (vx_atS RX6 74 "java/lang/IndexOutOfBoundsException" ["java/lang/RuntimeException", "java/lang/Exception"]).filter goodWord)
def wsL_drill_r1 : List Cond := [Cond.classLink RL 34 "java/lang/IllegalArgumentException", Cond.methodLink RL 31 yX6_drill, Cond.instanceMethod yX6_drill, Cond.selects RX6 yX6_drill yX6_drill, Cond.initialized RX6, Cond.code yX6_drill cX6_drill 4 (some .int), Cond.classLink RX6 107 "java/lang/IllegalArgumentException", Cond.initialized "java/lang/IllegalArgumentException", Cond.fieldLink RX6 28 "TypingCoach" "lettersIn" "LTypingCoach$LettersIn;", Cond.fieldLink RX6 35 "TypingCoach" "lesson" "LTypingCoach$Lesson;", Cond.methodLink RX6 66 yX6_isWithin, Cond.static yX6_isWithin, Cond.code yX6_isWithin cX6_isWithin 3 (some .boolean), Cond.methodLink RX6 112 yX4_weakestOfAll, Cond.instanceMethod yX4_weakestOfAll, Cond.selects RX4 yX4_weakestOfAll yX4_weakestOfAll, Cond.initialized RX4, Cond.code yX4_weakestOfAll cX4_weakestOfAll 3 (some .int), Cond.fieldLink RX4 15 "TypingCoach$LettersIn" "figures" "LTypingCoach$Figures;", Cond.methodLink RX4 19 yX4_contains, Cond.instanceMethod yX4_contains, Cond.selects RX4 yX4_contains yX4_contains, Cond.code yX4_contains cX4_contains 2 (some .boolean), Cond.fieldLink RX4 9 "TypingCoach$LettersIn" "in" "[Z"]
def wsL_drill_r2 : List Cond := [Cond.methodLink RX4 23 yX2_isWeaker, Cond.instanceMethod yX2_isWeaker, Cond.selects RX2 yX2_isWeaker yX2_isWeaker, Cond.initialized RX2, Cond.code yX2_isWeaker cX2_isWeaker 3 (some .boolean), Cond.fieldLink RX2 23 "TypingCoach$Figures" "shares" "LTypingCoach$Cells;", Cond.fieldLink RX2 20 "TypingCoach$Figures" "times" "LTypingCoach$Cells;", Cond.methodLink RX2 39 yX1_at, Cond.instanceMethod yX1_at, Cond.selects RX1 yX1_at yX1_at, Cond.initialized RX1, Cond.code yX1_at cX1_at 2 (some .int), Cond.fieldLink RX1 15 "TypingCoach$Cells" "values" "[I", Cond.methodLink RX6 92 yX3_isFull, Cond.instanceMethod yX3_isFull, Cond.selects RX3 yX3_isFull yX3_isFull, Cond.initialized RX3, Cond.code yX3_isFull cX3_isFull 1 (some .boolean), Cond.fieldLink RX3 23 "TypingCoach$Lesson" "size" "I", Cond.methodLink RX6 101 yX3_append, Cond.instanceMethod yX3_append, Cond.selects RX3 yX3_append yX3_append, Cond.code yX3_append cX3_append 2 none, Cond.fieldLink RX3 14 "TypingCoach$Lesson" "letters" "LTypingCoach$Cells;"]
def wsL_drill_r3 : List Cond := [Cond.methodLink RX3 36 yX1_set, Cond.instanceMethod yX1_set, Cond.selects RX1 yX1_set yX1_set, Cond.code yX1_set cX1_set 3 none, Cond.methodLink RX6 116 yX4_slowestBehind, Cond.instanceMethod yX4_slowestBehind, Cond.selects RX4 yX4_slowestBehind yX4_slowestBehind, Cond.code yX4_slowestBehind cX4_slowestBehind 6 (some .int), Cond.methodLink RX4 29 yX2_timeOfPair, Cond.instanceMethod yX2_timeOfPair, Cond.selects RX2 yX2_timeOfPair yX2_timeOfPair, Cond.code yX2_timeOfPair cX2_timeOfPair 3 (some .int), Cond.fieldLink RX2 26 "TypingCoach$Figures" "pairTimes" "LTypingCoach$Cells;", Cond.methodLink RX2 50 yX2_pairOf, Cond.static yX2_pairOf, Cond.code yX2_pairOf cX2_pairOf 2 (some .int)]
def wsL_drill : List Cond := .codeWith yL_drill cL_drill 4 (some .int) [(0, 9, 12, 34)] :: ((wsL_drill_r1 ++ (wsL_drill_r2 ++ wsL_drill_r3)) ++ wsX60 ++ wsX40 ++ wsX20 ++ wsX10 ++ wsX30 ++ (vx_atS RX6 111 "java/lang/IllegalArgumentException" ["java/lang/RuntimeException", "java/lang/Exception"]).filter goodWord)
def wsL_wantedAt_r1 : List Cond := [Cond.classLink RL 13 "java/lang/IndexOutOfBoundsException", Cond.methodLink RL 36 yX6_wantedAt, Cond.instanceMethod yX6_wantedAt, Cond.selects RX6 yX6_wantedAt yX6_wantedAt, Cond.initialized RX6, Cond.code yX6_wantedAt cX6_wantedAt 2 (some .int), Cond.classLink RX6 70 "java/lang/IndexOutOfBoundsException", Cond.initialized "java/lang/IndexOutOfBoundsException", Cond.fieldLink RX6 35 "TypingCoach" "lesson" "LTypingCoach$Lesson;", Cond.methodLink RX6 66 yX6_isWithin, Cond.static yX6_isWithin, Cond.code yX6_isWithin cX6_isWithin 3 (some .boolean), Cond.methodLink RX6 121 yX3_letterAt, Cond.instanceMethod yX3_letterAt, Cond.selects RX3 yX3_letterAt yX3_letterAt, Cond.initialized RX3, Cond.code yX3_letterAt cX3_letterAt 2 (some .int), Cond.fieldLink RX3 23 "TypingCoach$Lesson" "size" "I", Cond.fieldLink RX3 14 "TypingCoach$Lesson" "letters" "LTypingCoach$Cells;", Cond.methodLink RX3 39 yX1_at, Cond.instanceMethod yX1_at, Cond.selects RX1 yX1_at yX1_at, Cond.initialized RX1, Cond.code yX1_at cX1_at 2 (some .int)]
def wsL_wantedAt_r2 : List Cond := [Cond.fieldLink RX1 15 "TypingCoach$Cells" "values" "[I"]
def wsL_wantedAt : List Cond := .codeWith yL_wantedAt cL_wantedAt 4 (some .int) [(0, 9, 12, 13)] :: ((wsL_wantedAt_r1 ++ wsL_wantedAt_r2) ++ wsX60 ++ wsX30 ++ wsX10 ++ (vx_atS RX6 74 "java/lang/IndexOutOfBoundsException" ["java/lang/RuntimeException", "java/lang/Exception"]).filter goodWord)
def wsL_stroke_r1 : List Cond := [Cond.classLink RL 13 "java/lang/IndexOutOfBoundsException", Cond.classLink RL 34 "java/lang/IllegalArgumentException", Cond.classLink RL 29 "java/lang/IllegalStateException", Cond.methodLink RL 39 yX6_stroke, Cond.instanceMethod yX6_stroke, Cond.selects RX6 yX6_stroke yX6_stroke, Cond.initialized RX6, Cond.code yX6_stroke cX6_stroke 5 (some .int), Cond.classLink RX6 96 "java/lang/IllegalStateException", Cond.initialized "java/lang/IllegalStateException", Cond.fieldLink RX6 35 "TypingCoach" "lesson" "LTypingCoach$Lesson;", Cond.fieldLink RX6 19 "TypingCoach" "figures" "LTypingCoach$Figures;", Cond.fieldLink RX6 51 "TypingCoach" "errorsOfKinds" "LTypingCoach$Cells;", Cond.fieldLink RX6 55 "TypingCoach" "errorsOfFingers" "LTypingCoach$Cells;", Cond.fieldLink RX6 10 "TypingCoach" "board" "LTypingCoach$Board;", Cond.fieldLink RX6 58 "TypingCoach" "strokesOfDay" "I", Cond.methodLink RX6 62 yX6_needLetter, Cond.static yX6_needLetter, Cond.code yX6_needLetter cX6_needLetter 1 none, Cond.classLink RX6 70 "java/lang/IndexOutOfBoundsException", Cond.initialized "java/lang/IndexOutOfBoundsException", Cond.methodLink RX6 66 yX6_isWithin, Cond.static yX6_isWithin, Cond.code yX6_isWithin cX6_isWithin 3 (some .boolean)]
def wsL_stroke_r2 : List Cond := [Cond.methodLink RX6 127 yX6_needMillis, Cond.static yX6_needMillis, Cond.code yX6_needMillis cX6_needMillis 1 none, Cond.classLink RX6 107 "java/lang/IllegalArgumentException", Cond.initialized "java/lang/IllegalArgumentException", Cond.methodLink RX6 121 yX3_letterAt, Cond.instanceMethod yX3_letterAt, Cond.selects RX3 yX3_letterAt yX3_letterAt, Cond.initialized RX3, Cond.code yX3_letterAt cX3_letterAt 2 (some .int), Cond.fieldLink RX3 23 "TypingCoach$Lesson" "size" "I", Cond.fieldLink RX3 14 "TypingCoach$Lesson" "letters" "LTypingCoach$Cells;", Cond.methodLink RX3 39 yX1_at, Cond.instanceMethod yX1_at, Cond.selects RX1 yX1_at yX1_at, Cond.initialized RX1, Cond.code yX1_at cX1_at 2 (some .int), Cond.fieldLink RX1 15 "TypingCoach$Cells" "values" "[I", Cond.methodLink RX6 132 yX6_kindOfStroke, Cond.instanceMethod yX6_kindOfStroke, Cond.selects RX6 yX6_kindOfStroke yX6_kindOfStroke, Cond.code yX6_kindOfStroke cX6_kindOfStroke 3 (some .int), Cond.methodLink RX6 218 yX3_typedBefore, Cond.instanceMethod yX3_typedBefore]
def wsL_stroke_r3 : List Cond := [Cond.selects RX3 yX3_typedBefore yX3_typedBefore, Cond.code yX3_typedBefore cX3_typedBefore 1 (some .int), Cond.fieldLink RX3 20 "TypingCoach$Lesson" "typed" "LTypingCoach$Cells;", Cond.fieldLink RX3 27 "TypingCoach$Lesson" "position" "I", Cond.methodLink RX6 85 yX0_touch, Cond.instanceMethod yX0_touch, Cond.selects RX0 yX0_touch yX0_touch, Cond.initialized RX0, Cond.code yX0_touch cX0_touch 3 (some .boolean), Cond.methodLink RX0 37 Lib.Math.abs.name, Cond.static Lib.Math.abs.name, Cond.initialized "java/lang/Math", Cond.code Lib.Math.abs.name Lib.Math.abs.code 1 (some .int), Cond.methodLink RX0 30 yX0_columnOf, Cond.instanceMethod yX0_columnOf, Cond.selects RX0 yX0_columnOf yX0_columnOf, Cond.code yX0_columnOf cX0_columnOf 2 (some .int), Cond.fieldLink RX0 14 "TypingCoach$Board" "placeOfLetter" "LTypingCoach$Cells;", Cond.methodLink RX0 26 yX1_at, Cond.methodLink RX0 42 yX0_rowOf, Cond.instanceMethod yX0_rowOf, Cond.selects RX0 yX0_rowOf yX0_rowOf, Cond.code yX0_rowOf cX0_rowOf 2 (some .int), Cond.methodLink RX6 89 yX0_mirrorOf]
def wsL_stroke_r4 : List Cond := [Cond.instanceMethod yX0_mirrorOf, Cond.selects RX0 yX0_mirrorOf yX0_mirrorOf, Cond.code yX0_mirrorOf cX0_mirrorOf 2 (some .int), Cond.fieldLink RX0 20 "TypingCoach$Board" "letterOfPlace" "LTypingCoach$Cells;", Cond.methodLink RX6 135 yX2_learn, Cond.instanceMethod yX2_learn, Cond.selects RX2 yX2_learn yX2_learn, Cond.initialized RX2, Cond.code yX2_learn cX2_learn 4 none, Cond.fieldLink RX2 14 "TypingCoach$Figures" "counts" "LTypingCoach$Cells;", Cond.fieldLink RX2 20 "TypingCoach$Figures" "times" "LTypingCoach$Cells;", Cond.fieldLink RX2 23 "TypingCoach$Figures" "shares" "LTypingCoach$Cells;", Cond.methodLink RX2 36 yX1_add, Cond.instanceMethod yX1_add, Cond.selects RX1 yX1_add yX1_add, Cond.code yX1_add cX1_add 3 none, Cond.methodLink RX1 27 yX1_at, Cond.methodLink RX1 31 yX1_set, Cond.instanceMethod yX1_set, Cond.selects RX1 yX1_set yX1_set, Cond.code yX1_set cX1_set 3 none, Cond.methodLink RX2 39 yX1_at, Cond.methodLink RX2 43 yX2_aged, Cond.static yX2_aged]
def wsL_stroke_r5 : List Cond := [Cond.code yX2_aged cX2_aged 2 (some .int), Cond.methodLink RX2 47 yX1_set, Cond.methodLink RX6 139 yX2_learnPair, Cond.instanceMethod yX2_learnPair, Cond.selects RX2 yX2_learnPair yX2_learnPair, Cond.code yX2_learnPair cX2_learnPair 4 none, Cond.fieldLink RX2 26 "TypingCoach$Figures" "pairTimes" "LTypingCoach$Cells;", Cond.methodLink RX2 50 yX2_pairOf, Cond.static yX2_pairOf, Cond.code yX2_pairOf cX2_pairOf 2 (some .int), Cond.methodLink RX2 53 yX2_timeOfPair, Cond.instanceMethod yX2_timeOfPair, Cond.selects RX2 yX2_timeOfPair yX2_timeOfPair, Cond.code yX2_timeOfPair cX2_timeOfPair 3 (some .int), Cond.methodLink RX6 143 yX1_add, Cond.methodLink RX6 81 yX0_fingerOf, Cond.instanceMethod yX0_fingerOf, Cond.selects RX0 yX0_fingerOf yX0_fingerOf, Cond.code yX0_fingerOf cX0_fingerOf 3 (some .int), Cond.methodLink RX6 146 yX3_type, Cond.instanceMethod yX3_type, Cond.selects RX3 yX3_type yX3_type, Cond.code yX3_type cX3_type 3 none, Cond.fieldLink RX3 33 "TypingCoach$Lesson" "millisInAll" "I"]
def wsL_stroke_r6 : List Cond := [Cond.methodLink RX3 36 yX1_set]
def wsL_stroke : List Cond := .codeWith yL_stroke cL_stroke 5 (some .int) [(0, 10, 13, 13), (0, 10, 17, 34), (0, 10, 21, 29)] :: ((wsL_stroke_r1 ++ (wsL_stroke_r2 ++ (wsL_stroke_r3 ++ (wsL_stroke_r4 ++ (wsL_stroke_r5 ++ wsL_stroke_r6))))) ++ wsX60 ++ wsX30 ++ wsX10 ++ wsX00 ++ wsX20 ++ (vx_atS RX6 100 "java/lang/IllegalStateException" ["java/lang/RuntimeException", "java/lang/Exception"]).filter goodWord ++ (vx_atS RX6 74 "java/lang/IndexOutOfBoundsException" ["java/lang/RuntimeException", "java/lang/Exception"]).filter goodWord ++ (vx_atS RX6 111 "java/lang/IllegalArgumentException" ["java/lang/RuntimeException", "java/lang/Exception"]).filter goodWord)
def wsL_back_r1 : List Cond := [Cond.classLink RL 34 "java/lang/IllegalArgumentException", Cond.classLink RL 29 "java/lang/IllegalStateException", Cond.methodLink RL 43 yX6_back, Cond.instanceMethod yX6_back, Cond.selects RX6 yX6_back yX6_back, Cond.initialized RX6, Cond.code yX6_back cX6_back 2 (some .int), Cond.classLink RX6 96 "java/lang/IllegalStateException", Cond.initialized "java/lang/IllegalStateException", Cond.fieldLink RX6 35 "TypingCoach" "lesson" "LTypingCoach$Lesson;", Cond.methodLink RX6 127 yX6_needMillis, Cond.static yX6_needMillis, Cond.code yX6_needMillis cX6_needMillis 1 none, Cond.classLink RX6 107 "java/lang/IllegalArgumentException", Cond.initialized "java/lang/IllegalArgumentException", Cond.methodLink RX6 66 yX6_isWithin, Cond.static yX6_isWithin, Cond.code yX6_isWithin cX6_isWithin 3 (some .boolean), Cond.methodLink RX6 151 yX3_goBack, Cond.instanceMethod yX3_goBack, Cond.selects RX3 yX3_goBack yX3_goBack, Cond.initialized RX3, Cond.code yX3_goBack cX3_goBack 2 none, Cond.fieldLink RX3 27 "TypingCoach$Lesson" "position" "I"]
def wsL_back_r2 : List Cond := [Cond.fieldLink RX3 30 "TypingCoach$Lesson" "mendedStrokes" "I", Cond.fieldLink RX3 33 "TypingCoach$Lesson" "millisInAll" "I"]
def wsL_back : List Cond := .codeWith yL_back cL_back 4 (some .int) [(0, 9, 12, 34), (0, 9, 15, 29)] :: ((wsL_back_r1 ++ wsL_back_r2) ++ wsX60 ++ wsX30 ++ (vx_atS RX6 100 "java/lang/IllegalStateException" ["java/lang/RuntimeException", "java/lang/Exception"]).filter goodWord ++ (vx_atS RX6 111 "java/lang/IllegalArgumentException" ["java/lang/RuntimeException", "java/lang/Exception"]).filter goodWord)
def wsL_end_r1 : List Cond := [Cond.classLink RL 29 "java/lang/IllegalStateException", Cond.methodLink RL 46 yX6_end, Cond.instanceMethod yX6_end, Cond.selects RX6 yX6_end yX6_end, Cond.initialized RX6, Cond.code yX6_end cX6_end 2 (some .int), Cond.classLink RX6 96 "java/lang/IllegalStateException", Cond.initialized "java/lang/IllegalStateException", Cond.fieldLink RX6 42 "TypingCoach" "speeds" "LTypingCoach$Speeds;", Cond.fieldLink RX6 28 "TypingCoach" "lettersIn" "LTypingCoach$LettersIn;", Cond.fieldLink RX6 35 "TypingCoach" "lesson" "LTypingCoach$Lesson;", Cond.methodLink RX6 160 yX5_isFull, Cond.instanceMethod yX5_isFull, Cond.selects RX5 yX5_isFull yX5_isFull, Cond.initialized RX5, Cond.code yX5_isFull cX5_isFull 1 (some .boolean), Cond.fieldLink RX5 20 "TypingCoach$Speeds" "size" "I", Cond.methodLink RX6 163 yX4_review, Cond.instanceMethod yX4_review, Cond.selects RX4 yX4_review yX4_review, Cond.initialized RX4, Cond.code yX4_review cX4_review 1 (some .int), Cond.methodLink RX4 33 yX4_takeOut, Cond.instanceMethod yX4_takeOut]
def wsL_end_r2 : List Cond := [Cond.selects RX4 yX4_takeOut yX4_takeOut, Cond.code yX4_takeOut cX4_takeOut 3 (some .boolean), Cond.fieldLink RX4 9 "TypingCoach$LettersIn" "in" "[Z", Cond.fieldLink RX4 15 "TypingCoach$LettersIn" "figures" "LTypingCoach$Figures;", Cond.methodLink RX4 19 yX4_contains, Cond.instanceMethod yX4_contains, Cond.selects RX4 yX4_contains yX4_contains, Cond.code yX4_contains cX4_contains 2 (some .boolean), Cond.methodLink RX4 44 yX2_mustGoOut, Cond.instanceMethod yX2_mustGoOut, Cond.selects RX2 yX2_mustGoOut yX2_mustGoOut, Cond.initialized RX2, Cond.code yX2_mustGoOut cX2_mustGoOut 2 (some .boolean), Cond.fieldLink RX2 14 "TypingCoach$Figures" "counts" "LTypingCoach$Cells;", Cond.fieldLink RX2 23 "TypingCoach$Figures" "shares" "LTypingCoach$Cells;", Cond.methodLink RX2 39 yX1_at, Cond.instanceMethod yX1_at, Cond.selects RX1 yX1_at yX1_at, Cond.initialized RX1, Cond.code yX1_at cX1_at 2 (some .int), Cond.fieldLink RX1 15 "TypingCoach$Cells" "values" "[I", Cond.methodLink RX4 47 yX2_forget, Cond.instanceMethod yX2_forget, Cond.selects RX2 yX2_forget yX2_forget]
def wsL_end_r3 : List Cond := [Cond.code yX2_forget cX2_forget 2 none, Cond.fieldLink RX2 20 "TypingCoach$Figures" "times" "LTypingCoach$Cells;", Cond.methodLink RX2 47 yX1_set, Cond.instanceMethod yX1_set, Cond.selects RX1 yX1_set yX1_set, Cond.code yX1_set cX1_set 3 none, Cond.methodLink RX4 37 yX4_areAllGood, Cond.instanceMethod yX4_areAllGood, Cond.selects RX4 yX4_areAllGood yX4_areAllGood, Cond.code yX4_areAllGood cX4_areAllGood 2 (some .boolean), Cond.methodLink RX4 51 yX2_fulfilsWish, Cond.instanceMethod yX2_fulfilsWish, Cond.selects RX2 yX2_fulfilsWish yX2_fulfilsWish, Cond.code yX2_fulfilsWish cX2_fulfilsWish 2 (some .boolean), Cond.fieldLink RX2 29 "TypingCoach$Figures" "wishedTime" "I", Cond.fieldLink RX2 33 "TypingCoach$Figures" "wishedShare" "I", Cond.methodLink RX4 40 yX4_letIn, Cond.instanceMethod yX4_letIn, Cond.selects RX4 yX4_letIn yX4_letIn, Cond.code yX4_letIn cX4_letIn 2 (some .int), Cond.methodLink RX6 154 yX3_speedSoFar, Cond.instanceMethod yX3_speedSoFar, Cond.selects RX3 yX3_speedSoFar yX3_speedSoFar, Cond.initialized RX3]
def wsL_end_r4 : List Cond := [Cond.code yX3_speedSoFar cX3_speedSoFar 1 (some .int), Cond.fieldLink RX3 33 "TypingCoach$Lesson" "millisInAll" "I", Cond.constant RX3 47 (60000), Cond.methodLink RX3 43 yX3_rightStrokes, Cond.instanceMethod yX3_rightStrokes, Cond.selects RX3 yX3_rightStrokes yX3_rightStrokes, Cond.code yX3_rightStrokes cX3_rightStrokes 3 (some .int), Cond.fieldLink RX3 27 "TypingCoach$Lesson" "position" "I", Cond.fieldLink RX3 20 "TypingCoach$Lesson" "typed" "LTypingCoach$Cells;", Cond.fieldLink RX3 14 "TypingCoach$Lesson" "letters" "LTypingCoach$Cells;", Cond.methodLink RX3 39 yX1_at, Cond.methodLink RX6 166 yX5_keep, Cond.instanceMethod yX5_keep, Cond.selects RX5 yX5_keep yX5_keep, Cond.code yX5_keep cX5_keep 2 none, Cond.fieldLink RX5 14 "TypingCoach$Speeds" "kept" "LTypingCoach$Cells;", Cond.methodLink RX5 24 yX1_set, Cond.methodLink RX6 169 yX3_beginAnew, Cond.instanceMethod yX3_beginAnew, Cond.selects RX3 yX3_beginAnew yX3_beginAnew, Cond.code yX3_beginAnew cX3_beginAnew 1 none, Cond.fieldLink RX3 23 "TypingCoach$Lesson" "size" "I", Cond.fieldLink RX3 30 "TypingCoach$Lesson" "mendedStrokes" "I"]
def wsL_end : List Cond := .codeWith yL_end cL_end 3 (some .int) [(0, 8, 11, 29)] :: ((wsL_end_r1 ++ (wsL_end_r2 ++ (wsL_end_r3 ++ wsL_end_r4))) ++ wsX60 ++ wsX50 ++ wsX40 ++ wsX20 ++ wsX10 ++ wsX30 ++ (vx_atS RX6 100 "java/lang/IllegalStateException" ["java/lang/RuntimeException", "java/lang/Exception"]).filter goodWord)
def wsL_count : List Cond := .codeWith yL_count cL_count 4 (some .int) [(0, 9, 12, 13)] :: ([.classLink RL 13 "java/lang/IndexOutOfBoundsException", .methodLink RL 50 yX6_count, .instanceMethod yX6_count, .selects RX6 yX6_count yX6_count, .initialized RX6, .code yX6_count cX6_count 2 (some .int), .fieldLink RX6 19 "TypingCoach" "figures" "LTypingCoach$Figures;", .methodLink RX6 62 yX6_needLetter, .static yX6_needLetter, .code yX6_needLetter cX6_needLetter 1 none, .classLink RX6 70 "java/lang/IndexOutOfBoundsException", .initialized "java/lang/IndexOutOfBoundsException", .methodLink RX6 66 yX6_isWithin, .static yX6_isWithin, .code yX6_isWithin cX6_isWithin 3 (some .boolean), .methodLink RX6 175 yX1_at, .instanceMethod yX1_at, .selects RX1 yX1_at yX1_at, .initialized RX1, .code yX1_at cX1_at 2 (some .int), .fieldLink RX1 15 "TypingCoach$Cells" "values" "[I"] ++ wsX60 ++ wsX20 ++ wsX10 ++ (vx_atS RX6 74 "java/lang/IndexOutOfBoundsException" ["java/lang/RuntimeException", "java/lang/Exception"]).filter goodWord)
def wsL_time : List Cond := .codeWith yL_time cL_time 4 (some .int) [(0, 9, 12, 13)] :: ([.classLink RL 13 "java/lang/IndexOutOfBoundsException", .methodLink RL 53 yX6_time, .instanceMethod yX6_time, .selects RX6 yX6_time yX6_time, .initialized RX6, .code yX6_time cX6_time 2 (some .int), .fieldLink RX6 19 "TypingCoach" "figures" "LTypingCoach$Figures;", .methodLink RX6 62 yX6_needLetter, .static yX6_needLetter, .code yX6_needLetter cX6_needLetter 1 none, .classLink RX6 70 "java/lang/IndexOutOfBoundsException", .initialized "java/lang/IndexOutOfBoundsException", .methodLink RX6 66 yX6_isWithin, .static yX6_isWithin, .code yX6_isWithin cX6_isWithin 3 (some .boolean), .methodLink RX6 175 yX1_at, .instanceMethod yX1_at, .selects RX1 yX1_at yX1_at, .initialized RX1, .code yX1_at cX1_at 2 (some .int), .fieldLink RX1 15 "TypingCoach$Cells" "values" "[I"] ++ wsX60 ++ wsX20 ++ wsX10 ++ (vx_atS RX6 74 "java/lang/IndexOutOfBoundsException" ["java/lang/RuntimeException", "java/lang/Exception"]).filter goodWord)
def wsL_share : List Cond := .codeWith yL_share cL_share 4 (some .int) [(0, 9, 12, 13)] :: ([.classLink RL 13 "java/lang/IndexOutOfBoundsException", .methodLink RL 56 yX6_share, .instanceMethod yX6_share, .selects RX6 yX6_share yX6_share, .initialized RX6, .code yX6_share cX6_share 2 (some .int), .fieldLink RX6 19 "TypingCoach" "figures" "LTypingCoach$Figures;", .methodLink RX6 62 yX6_needLetter, .static yX6_needLetter, .code yX6_needLetter cX6_needLetter 1 none, .classLink RX6 70 "java/lang/IndexOutOfBoundsException", .initialized "java/lang/IndexOutOfBoundsException", .methodLink RX6 66 yX6_isWithin, .static yX6_isWithin, .code yX6_isWithin cX6_isWithin 3 (some .boolean), .methodLink RX6 175 yX1_at, .instanceMethod yX1_at, .selects RX1 yX1_at yX1_at, .initialized RX1, .code yX1_at cX1_at 2 (some .int), .fieldLink RX1 15 "TypingCoach$Cells" "values" "[I"] ++ wsX60 ++ wsX20 ++ wsX10 ++ (vx_atS RX6 74 "java/lang/IndexOutOfBoundsException" ["java/lang/RuntimeException", "java/lang/Exception"]).filter goodWord)
def wsL_pairTime_r1 : List Cond := [Cond.classLink RL 13 "java/lang/IndexOutOfBoundsException", Cond.methodLink RL 59 yX6_pairTime, Cond.instanceMethod yX6_pairTime, Cond.selects RX6 yX6_pairTime yX6_pairTime, Cond.initialized RX6, Cond.code yX6_pairTime cX6_pairTime 3 (some .int), Cond.fieldLink RX6 19 "TypingCoach" "figures" "LTypingCoach$Figures;", Cond.methodLink RX6 62 yX6_needLetter, Cond.static yX6_needLetter, Cond.code yX6_needLetter cX6_needLetter 1 none, Cond.classLink RX6 70 "java/lang/IndexOutOfBoundsException", Cond.initialized "java/lang/IndexOutOfBoundsException", Cond.methodLink RX6 66 yX6_isWithin, Cond.static yX6_isWithin, Cond.code yX6_isWithin cX6_isWithin 3 (some .boolean), Cond.methodLink RX6 184 yX2_timeOfPair, Cond.instanceMethod yX2_timeOfPair, Cond.selects RX2 yX2_timeOfPair yX2_timeOfPair, Cond.initialized RX2, Cond.code yX2_timeOfPair cX2_timeOfPair 3 (some .int), Cond.fieldLink RX2 26 "TypingCoach$Figures" "pairTimes" "LTypingCoach$Cells;", Cond.methodLink RX2 50 yX2_pairOf, Cond.static yX2_pairOf, Cond.code yX2_pairOf cX2_pairOf 2 (some .int)]
def wsL_pairTime_r2 : List Cond := [Cond.methodLink RX2 39 yX1_at, Cond.instanceMethod yX1_at, Cond.selects RX1 yX1_at yX1_at, Cond.initialized RX1, Cond.code yX1_at cX1_at 2 (some .int), Cond.fieldLink RX1 15 "TypingCoach$Cells" "values" "[I"]
def wsL_pairTime : List Cond := .codeWith yL_pairTime cL_pairTime 5 (some .int) [(0, 10, 13, 13)] :: ((wsL_pairTime_r1 ++ wsL_pairTime_r2) ++ wsX60 ++ wsX20 ++ wsX10 ++ (vx_atS RX6 74 "java/lang/IndexOutOfBoundsException" ["java/lang/RuntimeException", "java/lang/Exception"]).filter goodWord)
def wsL_errors : List Cond := .codeWith yL_errors cL_errors 4 (some .int) [(0, 9, 12, 34)] :: ([.classLink RL 34 "java/lang/IllegalArgumentException", .methodLink RL 62 yX6_errors, .instanceMethod yX6_errors, .selects RX6 yX6_errors yX6_errors, .initialized RX6, .code yX6_errors cX6_errors 2 (some .int), .classLink RX6 107 "java/lang/IllegalArgumentException", .initialized "java/lang/IllegalArgumentException", .fieldLink RX6 51 "TypingCoach" "errorsOfKinds" "LTypingCoach$Cells;", .methodLink RX6 66 yX6_isWithin, .static yX6_isWithin, .code yX6_isWithin cX6_isWithin 3 (some .boolean), .methodLink RX6 175 yX1_at, .instanceMethod yX1_at, .selects RX1 yX1_at yX1_at, .initialized RX1, .code yX1_at cX1_at 2 (some .int), .fieldLink RX1 15 "TypingCoach$Cells" "values" "[I"] ++ wsX60 ++ wsX10 ++ (vx_atS RX6 111 "java/lang/IllegalArgumentException" ["java/lang/RuntimeException", "java/lang/Exception"]).filter goodWord)
def wsL_errorsOf : List Cond := .codeWith yL_errorsOf cL_errorsOf 4 (some .int) [(0, 9, 12, 34)] :: ([.classLink RL 34 "java/lang/IllegalArgumentException", .methodLink RL 65 yX6_errorsOf, .instanceMethod yX6_errorsOf, .selects RX6 yX6_errorsOf yX6_errorsOf, .initialized RX6, .code yX6_errorsOf cX6_errorsOf 2 (some .int), .classLink RX6 107 "java/lang/IllegalArgumentException", .initialized "java/lang/IllegalArgumentException", .fieldLink RX6 55 "TypingCoach" "errorsOfFingers" "LTypingCoach$Cells;", .methodLink RX6 66 yX6_isWithin, .static yX6_isWithin, .code yX6_isWithin cX6_isWithin 3 (some .boolean), .methodLink RX6 175 yX1_at, .instanceMethod yX1_at, .selects RX1 yX1_at yX1_at, .initialized RX1, .code yX1_at cX1_at 2 (some .int), .fieldLink RX1 15 "TypingCoach$Cells" "values" "[I"] ++ wsX60 ++ wsX10 ++ (vx_atS RX6 111 "java/lang/IllegalArgumentException" ["java/lang/RuntimeException", "java/lang/Exception"]).filter goodWord)
def wsL_wish : List Cond := .codeWith yL_wish cL_wish 4 (some .int) [(0, 6, 9, 34)] :: ([.classLink RL 34 "java/lang/IllegalArgumentException", .methodLink RL 68 yX6_wish, .instanceMethod yX6_wish, .selects RX6 yX6_wish yX6_wish, .initialized RX6, .code yX6_wish cX6_wish 3 none, .classLink RX6 107 "java/lang/IllegalArgumentException", .initialized "java/lang/IllegalArgumentException", .fieldLink RX6 19 "TypingCoach" "figures" "LTypingCoach$Figures;", .methodLink RX6 66 yX6_isWithin, .static yX6_isWithin, .code yX6_isWithin cX6_isWithin 3 (some .boolean)] ++ wsX60 ++ wsX20 ++ (vx_atS RX6 111 "java/lang/IllegalArgumentException" ["java/lang/RuntimeException", "java/lang/Exception"]).filter goodWord)
def wsL_isIn : List Cond := .codeWith yL_isIn cL_isIn 4 (some .int) [(0, 16, 19, 13)] :: ([.classLink RL 13 "java/lang/IndexOutOfBoundsException", .methodLink RL 72 yX6_isIn, .instanceMethod yX6_isIn, .selects RX6 yX6_isIn yX6_isIn, .initialized RX6, .code yX6_isIn cX6_isIn 2 (some .boolean), .fieldLink RX6 28 "TypingCoach" "lettersIn" "LTypingCoach$LettersIn;", .methodLink RX6 62 yX6_needLetter, .static yX6_needLetter, .code yX6_needLetter cX6_needLetter 1 none, .classLink RX6 70 "java/lang/IndexOutOfBoundsException", .initialized "java/lang/IndexOutOfBoundsException", .methodLink RX6 66 yX6_isWithin, .static yX6_isWithin, .code yX6_isWithin cX6_isWithin 3 (some .boolean), .methodLink RX6 199 yX4_contains, .instanceMethod yX4_contains, .selects RX4 yX4_contains yX4_contains, .initialized RX4, .code yX4_contains cX4_contains 2 (some .boolean), .fieldLink RX4 9 "TypingCoach$LettersIn" "in" "[Z"] ++ wsX60 ++ wsX40 ++ (vx_atS RX6 74 "java/lang/IndexOutOfBoundsException" ["java/lang/RuntimeException", "java/lang/Exception"]).filter goodWord)
def wsL_isGood_r1 : List Cond := [Cond.classLink RL 13 "java/lang/IndexOutOfBoundsException", Cond.methodLink RL 76 yX6_isGood, Cond.instanceMethod yX6_isGood, Cond.selects RX6 yX6_isGood yX6_isGood, Cond.initialized RX6, Cond.code yX6_isGood cX6_isGood 2 (some .boolean), Cond.fieldLink RX6 19 "TypingCoach" "figures" "LTypingCoach$Figures;", Cond.methodLink RX6 62 yX6_needLetter, Cond.static yX6_needLetter, Cond.code yX6_needLetter cX6_needLetter 1 none, Cond.classLink RX6 70 "java/lang/IndexOutOfBoundsException", Cond.initialized "java/lang/IndexOutOfBoundsException", Cond.methodLink RX6 66 yX6_isWithin, Cond.static yX6_isWithin, Cond.code yX6_isWithin cX6_isWithin 3 (some .boolean), Cond.methodLink RX6 203 yX2_fulfilsWish, Cond.instanceMethod yX2_fulfilsWish, Cond.selects RX2 yX2_fulfilsWish yX2_fulfilsWish, Cond.initialized RX2, Cond.code yX2_fulfilsWish cX2_fulfilsWish 2 (some .boolean), Cond.fieldLink RX2 14 "TypingCoach$Figures" "counts" "LTypingCoach$Cells;", Cond.fieldLink RX2 20 "TypingCoach$Figures" "times" "LTypingCoach$Cells;", Cond.fieldLink RX2 29 "TypingCoach$Figures" "wishedTime" "I", Cond.fieldLink RX2 23 "TypingCoach$Figures" "shares" "LTypingCoach$Cells;"]
def wsL_isGood_r2 : List Cond := [Cond.fieldLink RX2 33 "TypingCoach$Figures" "wishedShare" "I", Cond.methodLink RX2 39 yX1_at, Cond.instanceMethod yX1_at, Cond.selects RX1 yX1_at yX1_at, Cond.initialized RX1, Cond.code yX1_at cX1_at 2 (some .int), Cond.fieldLink RX1 15 "TypingCoach$Cells" "values" "[I"]
def wsL_isGood : List Cond := .codeWith yL_isGood cL_isGood 4 (some .int) [(0, 16, 19, 13)] :: ((wsL_isGood_r1 ++ wsL_isGood_r2) ++ wsX60 ++ wsX20 ++ wsX10 ++ (vx_atS RX6 74 "java/lang/IndexOutOfBoundsException" ["java/lang/RuntimeException", "java/lang/Exception"]).filter goodWord)
def wsL_speedOf : List Cond := .codeWith yL_speedOf cL_speedOf 4 (some .int) [(0, 9, 12, 13)] :: ([.classLink RL 13 "java/lang/IndexOutOfBoundsException", .methodLink RL 79 yX6_speedOf, .instanceMethod yX6_speedOf, .selects RX6 yX6_speedOf yX6_speedOf, .initialized RX6, .code yX6_speedOf cX6_speedOf 2 (some .int), .classLink RX6 70 "java/lang/IndexOutOfBoundsException", .initialized "java/lang/IndexOutOfBoundsException", .fieldLink RX6 42 "TypingCoach" "speeds" "LTypingCoach$Speeds;", .methodLink RX6 66 yX6_isWithin, .static yX6_isWithin, .code yX6_isWithin cX6_isWithin 3 (some .boolean), .methodLink RX6 175 yX1_at, .instanceMethod yX1_at, .selects RX1 yX1_at yX1_at, .initialized RX1, .code yX1_at cX1_at 2 (some .int), .fieldLink RX1 15 "TypingCoach$Cells" "values" "[I"] ++ wsX60 ++ wsX50 ++ wsX10 ++ (vx_atS RX6 74 "java/lang/IndexOutOfBoundsException" ["java/lang/RuntimeException", "java/lang/Exception"]).filter goodWord)
def wsL_law0_r1 : List Cond := [Cond.classLink RL 8 RX6, Cond.instantiable RX6 8, Cond.initialized RX6, Cond.classLink RL 83 RX7, Cond.instantiable RX7 20, Cond.initialized RX7, Cond.arrayClass .long, Cond.methodLink RL 82 yX6_init, Cond.instanceMethod yX6_init, Cond.code yX6_init cX6_init 1 none, Cond.methodLink RX6 1 objectInit, Cond.instanceMethod objectInit, Cond.code objectInit ⟨#[0xb1]⟩ 1 none, Cond.classLink RX6 7 RX0, Cond.instantiable RX0 2, Cond.initialized RX0, Cond.fieldLink RX6 10 "TypingCoach" "board" "LTypingCoach$Board;", Cond.classLink RX6 16 RX2, Cond.instantiable RX2 6, Cond.initialized RX2, Cond.fieldLink RX6 19 "TypingCoach" "figures" "LTypingCoach$Figures;", Cond.classLink RX6 23 RX4, Cond.instantiable RX4 2, Cond.initialized RX4]
def wsL_law0_r2 : List Cond := [Cond.fieldLink RX6 28 "TypingCoach" "lettersIn" "LTypingCoach$LettersIn;", Cond.classLink RX6 32 RX3, Cond.instantiable RX3 6, Cond.initialized RX3, Cond.fieldLink RX6 35 "TypingCoach" "lesson" "LTypingCoach$Lesson;", Cond.classLink RX6 39 RX5, Cond.instantiable RX5 2, Cond.initialized RX5, Cond.fieldLink RX6 42 "TypingCoach" "speeds" "LTypingCoach$Speeds;", Cond.classLink RX6 46 RX1, Cond.instantiable RX1 1, Cond.initialized RX1, Cond.fieldLink RX6 51 "TypingCoach" "errorsOfKinds" "LTypingCoach$Cells;", Cond.fieldLink RX6 55 "TypingCoach" "errorsOfFingers" "LTypingCoach$Cells;", Cond.fieldLink RX6 58 "TypingCoach" "strokesOfDay" "I", Cond.methodLink RX6 9 yX0_init, Cond.instanceMethod yX0_init, Cond.code yX0_init cX0_init 2 none, Cond.methodLink RX0 3 objectInit, Cond.classLink RX0 9 RX1, Cond.fieldLink RX0 14 "TypingCoach$Board" "placeOfLetter" "LTypingCoach$Cells;", Cond.fieldLink RX0 20 "TypingCoach$Board" "letterOfPlace" "LTypingCoach$Cells;", Cond.methodLink RX0 11 yX1_init, Cond.instanceMethod yX1_init]
def wsL_law0_r3 : List Cond := [Cond.code yX1_init cX1_init 3 none, Cond.methodLink RX1 3 objectInit, Cond.methodLink RX1 9 Lib.Math.max.name, Cond.static Lib.Math.max.name, Cond.initialized "java/lang/Math", Cond.code Lib.Math.max.name Lib.Math.max.code 2 (some .int), Cond.arrayClass .int, Cond.fieldLink RX1 15 "TypingCoach$Cells" "values" "[I", Cond.methodLink RX1 21 yJ7_fill_53178, Cond.static yJ7_fill_53178, Cond.initialized RJ7, Cond.code yJ7_fill_53178 cJ7_fill_53178 4 none, Cond.methodLink RX0 23 yX1_set, Cond.instanceMethod yX1_set, Cond.selects RX1 yX1_set yX1_set, Cond.code yX1_set cX1_set 3 none, Cond.instanceMethod yX2_init, Cond.code yX2_init cX2_init 1 none, Cond.methodLink RX2 3 objectInit, Cond.classLink RX2 9 RX1, Cond.fieldLink RX2 14 "TypingCoach$Figures" "counts" "LTypingCoach$Cells;", Cond.fieldLink RX2 20 "TypingCoach$Figures" "times" "LTypingCoach$Cells;", Cond.fieldLink RX2 23 "TypingCoach$Figures" "shares" "LTypingCoach$Cells;", Cond.fieldLink RX2 26 "TypingCoach$Figures" "pairTimes" "LTypingCoach$Cells;"]
def wsL_law0_r4 : List Cond := [Cond.fieldLink RX2 29 "TypingCoach$Figures" "wishedTime" "I", Cond.fieldLink RX2 33 "TypingCoach$Figures" "wishedShare" "I", Cond.methodLink RX2 11 yX1_init, Cond.methodLink RX6 25 yX4_init, Cond.instanceMethod yX4_init, Cond.code yX4_init cX4_init 3 none, Cond.methodLink RX4 3 objectInit, Cond.arrayClass .boolean, Cond.fieldLink RX4 9 "TypingCoach$LettersIn" "in" "[Z", Cond.fieldLink RX4 15 "TypingCoach$LettersIn" "figures" "LTypingCoach$Figures;", Cond.instanceMethod yX3_init, Cond.code yX3_init cX3_init 1 none, Cond.methodLink RX3 3 objectInit, Cond.classLink RX3 9 RX1, Cond.fieldLink RX3 14 "TypingCoach$Lesson" "letters" "LTypingCoach$Cells;", Cond.fieldLink RX3 20 "TypingCoach$Lesson" "typed" "LTypingCoach$Cells;", Cond.fieldLink RX3 23 "TypingCoach$Lesson" "size" "I", Cond.fieldLink RX3 27 "TypingCoach$Lesson" "position" "I", Cond.fieldLink RX3 30 "TypingCoach$Lesson" "mendedStrokes" "I", Cond.fieldLink RX3 33 "TypingCoach$Lesson" "millisInAll" "I", Cond.methodLink RX3 11 yX1_init, Cond.instanceMethod yX5_init, Cond.code yX5_init cX5_init 1 none, Cond.methodLink RX5 3 objectInit]
def wsL_law0_r5 : List Cond := [Cond.classLink RX5 9 RX1, Cond.fieldLink RX5 14 "TypingCoach$Speeds" "kept" "LTypingCoach$Cells;", Cond.fieldLink RX5 20 "TypingCoach$Speeds" "size" "I", Cond.methodLink RX5 11 yX1_init, Cond.methodLink RX6 48 yX1_init, Cond.methodLink RL 85 yX7_init, Cond.instanceMethod yX7_init, Cond.code yX7_init cX7_init 2 none, Cond.methodLink RX7 1 objectInit, Cond.fieldLink RX7 7 "TypingCoachModel" "places" "[I", Cond.fieldLink RX7 13 "TypingCoachModel" "counts" "[I", Cond.fieldLink RX7 16 "TypingCoachModel" "times" "[I", Cond.fieldLink RX7 19 "TypingCoachModel" "shares" "[I", Cond.fieldLink RX7 22 "TypingCoachModel" "areIn" "[Z", Cond.fieldLink RX7 26 "TypingCoachModel" "pairs" "[I", Cond.fieldLink RX7 29 "TypingCoachModel" "wanted" "[I", Cond.fieldLink RX7 32 "TypingCoachModel" "typed" "[I", Cond.fieldLink RX7 35 "TypingCoachModel" "errors" "[I", Cond.fieldLink RX7 38 "TypingCoachModel" "byFinger" "[I", Cond.fieldLink RX7 41 "TypingCoachModel" "wishedTime" "I", Cond.fieldLink RX7 45 "TypingCoachModel" "wishedShare" "I", Cond.fieldLink RX7 48 "TypingCoachModel" "speeds" "[I", Cond.methodLink RL 86 yL_put, Cond.static yL_put]
def wsL_law0_r6 : List Cond := [Cond.initialized RL, Cond.codeWith yL_put cL_put 6 (some .int) [(0, 12, 15, 13)], Cond.classLink RL 13 "java/lang/IndexOutOfBoundsException", Cond.methodLink RL 7 yX6_put, Cond.instanceMethod yX6_put, Cond.selects RX6 yX6_put yX6_put, Cond.code yX6_put cX6_put 4 (some .int), Cond.classLink RX6 70 "java/lang/IndexOutOfBoundsException", Cond.initialized "java/lang/IndexOutOfBoundsException", Cond.methodLink RX6 62 yX6_needLetter, Cond.static yX6_needLetter, Cond.code yX6_needLetter cX6_needLetter 1 none, Cond.methodLink RX6 66 yX6_isWithin, Cond.static yX6_isWithin, Cond.code yX6_isWithin cX6_isWithin 3 (some .boolean), Cond.methodLink RX6 77 yX0_move, Cond.instanceMethod yX0_move, Cond.selects RX0 yX0_move yX0_move, Cond.code yX0_move cX0_move 5 (some .int), Cond.methodLink RX0 26 yX1_at, Cond.instanceMethod yX1_at, Cond.selects RX1 yX1_at yX1_at, Cond.code yX1_at cX1_at 2 (some .int), Cond.methodLink RL 91 yX7_put]
def wsL_law0_r7 : List Cond := [Cond.instanceMethod yX7_put, Cond.selects RX7 yX7_put yX7_put, Cond.code yX7_put cX7_put 6 (some .int), Cond.methodLink RX7 58 yX7_isLetter, Cond.static yX7_isLetter, Cond.code yX7_isLetter cX7_isLetter 1 (some .boolean), Cond.methodLink RX7 54 yX7_in, Cond.static yX7_in, Cond.code yX7_in cX7_in 3 (some .boolean), Cond.methodLink RX7 62 yX7_holds, Cond.instanceMethod yX7_holds, Cond.selects RX7 yX7_holds yX7_holds, Cond.code yX7_holds cX7_holds 2 (some .boolean), Cond.fieldLink RX7 51 "TypingCoachModel" "thrown" "I", Cond.methodLink RX7 65 yX7_letterAt, Cond.instanceMethod yX7_letterAt, Cond.selects RX7 yX7_letterAt yX7_letterAt, Cond.code yX7_letterAt cX7_letterAt 3 (some .int), Cond.methodLink RL 92 yX7_thrown, Cond.instanceMethod yX7_thrown, Cond.selects RX7 yX7_thrown yX7_thrown, Cond.code yX7_thrown cX7_thrown 1 (some .int), Cond.methodLink RL 95 yL_finger, Cond.static yL_finger]
def wsL_law0_r8 : List Cond := [Cond.codeWith yL_finger cL_finger 4 (some .int) [(0, 9, 12, 13)], Cond.methodLink RL 15 yX6_finger, Cond.instanceMethod yX6_finger, Cond.selects RX6 yX6_finger yX6_finger, Cond.code yX6_finger cX6_finger 2 (some .int), Cond.methodLink RX6 81 yX0_fingerOf, Cond.instanceMethod yX0_fingerOf, Cond.selects RX0 yX0_fingerOf yX0_fingerOf, Cond.code yX0_fingerOf cX0_fingerOf 3 (some .int), Cond.methodLink RX0 30 yX0_columnOf, Cond.instanceMethod yX0_columnOf, Cond.selects RX0 yX0_columnOf yX0_columnOf, Cond.code yX0_columnOf cX0_columnOf 2 (some .int), Cond.methodLink RL 98 yX7_finger, Cond.instanceMethod yX7_finger, Cond.selects RX7 yX7_finger yX7_finger, Cond.code yX7_finger cX7_finger 2 (some .int), Cond.methodLink RX7 69 yX7_fingerOf, Cond.instanceMethod yX7_fingerOf, Cond.selects RX7 yX7_fingerOf yX7_fingerOf, Cond.code yX7_fingerOf cX7_fingerOf 3 (some .int), Cond.methodLink RL 99 yL_areBeside, Cond.static yL_areBeside, Cond.codeWith yL_areBeside cL_areBeside 5 (some .int) [(0, 17, 20, 13)]]
def wsL_law0_r9 : List Cond := [Cond.methodLink RL 19 yX6_areBeside, Cond.instanceMethod yX6_areBeside, Cond.selects RX6 yX6_areBeside yX6_areBeside, Cond.code yX6_areBeside cX6_areBeside 3 (some .boolean), Cond.methodLink RX6 85 yX0_touch, Cond.instanceMethod yX0_touch, Cond.selects RX0 yX0_touch yX0_touch, Cond.code yX0_touch cX0_touch 3 (some .boolean), Cond.methodLink RX0 37 Lib.Math.abs.name, Cond.static Lib.Math.abs.name, Cond.code Lib.Math.abs.name Lib.Math.abs.code 1 (some .int), Cond.methodLink RX0 42 yX0_rowOf, Cond.instanceMethod yX0_rowOf, Cond.selects RX0 yX0_rowOf yX0_rowOf, Cond.code yX0_rowOf cX0_rowOf 2 (some .int), Cond.methodLink RL 102 yX7_areBeside, Cond.instanceMethod yX7_areBeside, Cond.selects RX7 yX7_areBeside yX7_areBeside, Cond.code yX7_areBeside cX7_areBeside 3 (some .boolean), Cond.methodLink RX7 72 yX7_isBeside, Cond.instanceMethod yX7_isBeside, Cond.selects RX7 yX7_isBeside yX7_isBeside, Cond.code yX7_isBeside cX7_isBeside 5 (some .boolean), Cond.methodLink RL 103 yL_mirror]
def wsL_law0_r10 : List Cond := [Cond.static yL_mirror, Cond.codeWith yL_mirror cL_mirror 4 (some .int) [(0, 9, 12, 13)], Cond.methodLink RL 23 yX6_mirror, Cond.instanceMethod yX6_mirror, Cond.selects RX6 yX6_mirror yX6_mirror, Cond.code yX6_mirror cX6_mirror 2 (some .int), Cond.methodLink RX6 89 yX0_mirrorOf, Cond.instanceMethod yX0_mirrorOf, Cond.selects RX0 yX0_mirrorOf yX0_mirrorOf, Cond.code yX0_mirrorOf cX0_mirrorOf 2 (some .int), Cond.methodLink RL 105 yX7_mirror, Cond.instanceMethod yX7_mirror, Cond.selects RX7 yX7_mirror yX7_mirror, Cond.code yX7_mirror cX7_mirror 2 (some .int), Cond.methodLink RX7 76 yX7_mirrorOf, Cond.instanceMethod yX7_mirrorOf, Cond.selects RX7 yX7_mirrorOf yX7_mirrorOf, Cond.code yX7_mirrorOf cX7_mirrorOf 2 (some .int), Cond.methodLink RL 106 yL_want, Cond.static yL_want, Cond.codeWith yL_want cL_want 4 (some .int) [(0, 9, 12, 13), (0, 9, 15, 29)], Cond.classLink RL 29 "java/lang/IllegalStateException", Cond.methodLink RL 26 yX6_want, Cond.instanceMethod yX6_want]
def wsL_law0_r11 : List Cond := [Cond.selects RX6 yX6_want yX6_want, Cond.code yX6_want cX6_want 2 (some .int), Cond.classLink RX6 96 "java/lang/IllegalStateException", Cond.initialized "java/lang/IllegalStateException", Cond.methodLink RX6 92 yX3_isFull, Cond.instanceMethod yX3_isFull, Cond.selects RX3 yX3_isFull yX3_isFull, Cond.code yX3_isFull cX3_isFull 1 (some .boolean), Cond.methodLink RX6 101 yX3_append, Cond.instanceMethod yX3_append, Cond.selects RX3 yX3_append yX3_append, Cond.code yX3_append cX3_append 2 none, Cond.methodLink RX3 36 yX1_set, Cond.methodLink RL 108 yX7_want, Cond.instanceMethod yX7_want, Cond.selects RX7 yX7_want yX7_want, Cond.code yX7_want cX7_want 2 (some .int), Cond.fieldLink RX7 79 "TypingCoachModel" "many" "I", Cond.methodLink RX7 82 yX7_wants, Cond.instanceMethod yX7_wants, Cond.selects RX7 yX7_wants yX7_wants, Cond.code yX7_wants cX7_wants 2 none, Cond.methodLink RL 109 yL_drill, Cond.static yL_drill]
def wsL_law0_r12 : List Cond := [Cond.codeWith yL_drill cL_drill 4 (some .int) [(0, 9, 12, 34)], Cond.classLink RL 34 "java/lang/IllegalArgumentException", Cond.methodLink RL 31 yX6_drill, Cond.instanceMethod yX6_drill, Cond.selects RX6 yX6_drill yX6_drill, Cond.code yX6_drill cX6_drill 4 (some .int), Cond.classLink RX6 107 "java/lang/IllegalArgumentException", Cond.initialized "java/lang/IllegalArgumentException", Cond.methodLink RX6 112 yX4_weakestOfAll, Cond.instanceMethod yX4_weakestOfAll, Cond.selects RX4 yX4_weakestOfAll yX4_weakestOfAll, Cond.code yX4_weakestOfAll cX4_weakestOfAll 3 (some .int), Cond.methodLink RX4 19 yX4_contains, Cond.instanceMethod yX4_contains, Cond.selects RX4 yX4_contains yX4_contains, Cond.code yX4_contains cX4_contains 2 (some .boolean), Cond.methodLink RX4 23 yX2_isWeaker, Cond.instanceMethod yX2_isWeaker, Cond.selects RX2 yX2_isWeaker yX2_isWeaker, Cond.code yX2_isWeaker cX2_isWeaker 3 (some .boolean), Cond.methodLink RX2 39 yX1_at, Cond.methodLink RX6 116 yX4_slowestBehind, Cond.instanceMethod yX4_slowestBehind, Cond.selects RX4 yX4_slowestBehind yX4_slowestBehind]
def wsL_law0_r13 : List Cond := [Cond.code yX4_slowestBehind cX4_slowestBehind 6 (some .int), Cond.methodLink RX4 29 yX2_timeOfPair, Cond.instanceMethod yX2_timeOfPair, Cond.selects RX2 yX2_timeOfPair yX2_timeOfPair, Cond.code yX2_timeOfPair cX2_timeOfPair 3 (some .int), Cond.methodLink RX2 50 yX2_pairOf, Cond.static yX2_pairOf, Cond.code yX2_pairOf cX2_pairOf 2 (some .int), Cond.methodLink RL 111 yX7_drill, Cond.instanceMethod yX7_drill, Cond.selects RX7 yX7_drill yX7_drill, Cond.code yX7_drill cX7_drill 4 (some .int), Cond.methodLink RX7 86 yX7_weakestOf, Cond.instanceMethod yX7_weakestOf, Cond.selects RX7 yX7_weakestOf yX7_weakestOf, Cond.code yX7_weakestOf cX7_weakestOf 4 (some .int), Cond.methodLink RX7 90 yX7_behind, Cond.instanceMethod yX7_behind, Cond.selects RX7 yX7_behind yX7_behind, Cond.code yX7_behind cX7_behind 5 (some .int), Cond.methodLink RL 112 yX6_wanted, Cond.instanceMethod yX6_wanted, Cond.selects RX6 yX6_wanted yX6_wanted, Cond.code yX6_wanted cX6_wanted 1 (some .int)]
def wsL_law0_r14 : List Cond := [Cond.methodLink RL 115 yX7_wanted, Cond.instanceMethod yX7_wanted, Cond.selects RX7 yX7_wanted yX7_wanted, Cond.code yX7_wanted cX7_wanted 1 (some .int), Cond.methodLink RL 116 yL_wantedAt, Cond.static yL_wantedAt, Cond.codeWith yL_wantedAt cL_wantedAt 4 (some .int) [(0, 9, 12, 13)], Cond.methodLink RL 36 yX6_wantedAt, Cond.instanceMethod yX6_wantedAt, Cond.selects RX6 yX6_wantedAt yX6_wantedAt, Cond.code yX6_wantedAt cX6_wantedAt 2 (some .int), Cond.methodLink RX6 121 yX3_letterAt, Cond.instanceMethod yX3_letterAt, Cond.selects RX3 yX3_letterAt yX3_letterAt, Cond.code yX3_letterAt cX3_letterAt 2 (some .int), Cond.methodLink RX3 39 yX1_at, Cond.methodLink RL 118 yX7_wantedAt, Cond.instanceMethod yX7_wantedAt, Cond.selects RX7 yX7_wantedAt yX7_wantedAt, Cond.code yX7_wantedAt cX7_wantedAt 2 (some .int), Cond.methodLink RL 119 yX6_position, Cond.instanceMethod yX6_position, Cond.selects RX6 yX6_position yX6_position, Cond.code yX6_position cX6_position 1 (some .int)]
def wsL_law0_r15 : List Cond := [Cond.methodLink RL 122 yX7_position, Cond.instanceMethod yX7_position, Cond.selects RX7 yX7_position yX7_position, Cond.code yX7_position cX7_position 1 (some .int), Cond.fieldLink RX7 93 "TypingCoachModel" "position" "I", Cond.methodLink RL 123 yL_stroke, Cond.static yL_stroke, Cond.codeWith yL_stroke cL_stroke 5 (some .int) [(0, 10, 13, 13), (0, 10, 17, 34), (0, 10, 21, 29)], Cond.methodLink RL 39 yX6_stroke, Cond.instanceMethod yX6_stroke, Cond.selects RX6 yX6_stroke yX6_stroke, Cond.code yX6_stroke cX6_stroke 5 (some .int), Cond.methodLink RX6 127 yX6_needMillis, Cond.static yX6_needMillis, Cond.code yX6_needMillis cX6_needMillis 1 none, Cond.methodLink RX6 132 yX6_kindOfStroke, Cond.instanceMethod yX6_kindOfStroke, Cond.selects RX6 yX6_kindOfStroke yX6_kindOfStroke, Cond.code yX6_kindOfStroke cX6_kindOfStroke 3 (some .int), Cond.methodLink RX6 218 yX3_typedBefore, Cond.instanceMethod yX3_typedBefore, Cond.selects RX3 yX3_typedBefore yX3_typedBefore, Cond.code yX3_typedBefore cX3_typedBefore 1 (some .int), Cond.methodLink RX6 135 yX2_learn]
def wsL_law0_r16 : List Cond := [Cond.instanceMethod yX2_learn, Cond.selects RX2 yX2_learn yX2_learn, Cond.code yX2_learn cX2_learn 4 none, Cond.methodLink RX2 36 yX1_add, Cond.instanceMethod yX1_add, Cond.selects RX1 yX1_add yX1_add, Cond.code yX1_add cX1_add 3 none, Cond.methodLink RX1 27 yX1_at, Cond.methodLink RX1 31 yX1_set, Cond.methodLink RX2 43 yX2_aged, Cond.static yX2_aged, Cond.code yX2_aged cX2_aged 2 (some .int), Cond.methodLink RX2 47 yX1_set, Cond.methodLink RX6 139 yX2_learnPair, Cond.instanceMethod yX2_learnPair, Cond.selects RX2 yX2_learnPair yX2_learnPair, Cond.code yX2_learnPair cX2_learnPair 4 none, Cond.methodLink RX2 53 yX2_timeOfPair, Cond.methodLink RX6 143 yX1_add, Cond.methodLink RX6 146 yX3_type, Cond.instanceMethod yX3_type, Cond.selects RX3 yX3_type yX3_type, Cond.code yX3_type cX3_type 3 none, Cond.methodLink RL 125 yX7_stroke]
def wsL_law0_r17 : List Cond := [Cond.instanceMethod yX7_stroke, Cond.selects RX7 yX7_stroke yX7_stroke, Cond.code yX7_stroke cX7_stroke 7 (some .int), Cond.fieldLink RX7 99 "TypingCoachModel" "spent" "I", Cond.fieldLink RX7 102 "TypingCoachModel" "strokes" "I", Cond.methodLink RX7 96 yX7_errorOf, Cond.instanceMethod yX7_errorOf, Cond.selects RX7 yX7_errorOf yX7_errorOf, Cond.code yX7_errorOf cX7_errorOf 3 (some .int), Cond.methodLink RL 126 yL_back, Cond.static yL_back, Cond.codeWith yL_back cL_back 4 (some .int) [(0, 9, 12, 34), (0, 9, 15, 29)], Cond.methodLink RL 43 yX6_back, Cond.instanceMethod yX6_back, Cond.selects RX6 yX6_back yX6_back, Cond.code yX6_back cX6_back 2 (some .int), Cond.methodLink RX6 151 yX3_goBack, Cond.instanceMethod yX3_goBack, Cond.selects RX3 yX3_goBack yX3_goBack, Cond.code yX3_goBack cX3_goBack 2 none, Cond.methodLink RL 128 yX7_back, Cond.instanceMethod yX7_back, Cond.selects RX7 yX7_back yX7_back, Cond.code yX7_back cX7_back 2 (some .int)]
def wsL_law0_r18 : List Cond := [Cond.fieldLink RX7 105 "TypingCoachModel" "mended" "I", Cond.methodLink RL 129 yX6_speed, Cond.instanceMethod yX6_speed, Cond.selects RX6 yX6_speed yX6_speed, Cond.code yX6_speed cX6_speed 1 (some .int), Cond.methodLink RX6 154 yX3_speedSoFar, Cond.instanceMethod yX3_speedSoFar, Cond.selects RX3 yX3_speedSoFar yX3_speedSoFar, Cond.code yX3_speedSoFar cX3_speedSoFar 1 (some .int), Cond.constant RX3 47 (60000), Cond.methodLink RX3 43 yX3_rightStrokes, Cond.instanceMethod yX3_rightStrokes, Cond.selects RX3 yX3_rightStrokes yX3_rightStrokes, Cond.code yX3_rightStrokes cX3_rightStrokes 3 (some .int), Cond.methodLink RL 132 yX7_speed, Cond.instanceMethod yX7_speed, Cond.selects RX7 yX7_speed yX7_speed, Cond.code yX7_speed cX7_speed 1 (some .int), Cond.methodLink RX7 109 yX7_speedNow, Cond.instanceMethod yX7_speedNow, Cond.selects RX7 yX7_speedNow yX7_speedNow, Cond.code yX7_speedNow cX7_speedNow 3 (some .int), Cond.constant RX7 108 (60000), Cond.methodLink RL 133 yX6_mended]
def wsL_law0_r19 : List Cond := [Cond.instanceMethod yX6_mended, Cond.selects RX6 yX6_mended yX6_mended, Cond.code yX6_mended cX6_mended 1 (some .int), Cond.methodLink RL 136 yX7_mended, Cond.instanceMethod yX7_mended, Cond.selects RX7 yX7_mended yX7_mended, Cond.code yX7_mended cX7_mended 1 (some .int), Cond.methodLink RL 137 yL_end, Cond.static yL_end, Cond.codeWith yL_end cL_end 3 (some .int) [(0, 8, 11, 29)], Cond.methodLink RL 46 yX6_end, Cond.instanceMethod yX6_end, Cond.selects RX6 yX6_end yX6_end, Cond.code yX6_end cX6_end 2 (some .int), Cond.methodLink RX6 160 yX5_isFull, Cond.instanceMethod yX5_isFull, Cond.selects RX5 yX5_isFull yX5_isFull, Cond.code yX5_isFull cX5_isFull 1 (some .boolean), Cond.methodLink RX6 163 yX4_review, Cond.instanceMethod yX4_review, Cond.selects RX4 yX4_review yX4_review, Cond.code yX4_review cX4_review 1 (some .int), Cond.methodLink RX4 33 yX4_takeOut, Cond.instanceMethod yX4_takeOut]
def wsL_law0_r20 : List Cond := [Cond.selects RX4 yX4_takeOut yX4_takeOut, Cond.code yX4_takeOut cX4_takeOut 3 (some .boolean), Cond.methodLink RX4 44 yX2_mustGoOut, Cond.instanceMethod yX2_mustGoOut, Cond.selects RX2 yX2_mustGoOut yX2_mustGoOut, Cond.code yX2_mustGoOut cX2_mustGoOut 2 (some .boolean), Cond.methodLink RX4 47 yX2_forget, Cond.instanceMethod yX2_forget, Cond.selects RX2 yX2_forget yX2_forget, Cond.code yX2_forget cX2_forget 2 none, Cond.methodLink RX4 37 yX4_areAllGood, Cond.instanceMethod yX4_areAllGood, Cond.selects RX4 yX4_areAllGood yX4_areAllGood, Cond.code yX4_areAllGood cX4_areAllGood 2 (some .boolean), Cond.methodLink RX4 51 yX2_fulfilsWish, Cond.instanceMethod yX2_fulfilsWish, Cond.selects RX2 yX2_fulfilsWish yX2_fulfilsWish, Cond.code yX2_fulfilsWish cX2_fulfilsWish 2 (some .boolean), Cond.methodLink RX4 40 yX4_letIn, Cond.instanceMethod yX4_letIn, Cond.selects RX4 yX4_letIn yX4_letIn, Cond.code yX4_letIn cX4_letIn 2 (some .int), Cond.methodLink RX6 166 yX5_keep, Cond.instanceMethod yX5_keep]
def wsL_law0_r21 : List Cond := [Cond.selects RX5 yX5_keep yX5_keep, Cond.code yX5_keep cX5_keep 2 none, Cond.methodLink RX5 24 yX1_set, Cond.methodLink RX6 169 yX3_beginAnew, Cond.instanceMethod yX3_beginAnew, Cond.selects RX3 yX3_beginAnew yX3_beginAnew, Cond.code yX3_beginAnew cX3_beginAnew 1 none, Cond.methodLink RL 140 yX7_end, Cond.instanceMethod yX7_end, Cond.selects RX7 yX7_end yX7_end, Cond.code yX7_end cX7_end 2 (some .int), Cond.fieldLink RX7 115 "TypingCoachModel" "lessons" "I", Cond.methodLink RX7 118 yX7_takesOut, Cond.instanceMethod yX7_takesOut, Cond.selects RX7 yX7_takesOut yX7_takesOut, Cond.code yX7_takesOut cX7_takesOut 3 (some .boolean), Cond.methodLink RX7 122 yX7_letsIn, Cond.instanceMethod yX7_letsIn, Cond.selects RX7 yX7_letsIn yX7_letsIn, Cond.code yX7_letsIn cX7_letsIn 3 (some .int), Cond.methodLink RX7 112 yX7_isGoodOne, Cond.instanceMethod yX7_isGoodOne, Cond.selects RX7 yX7_isGoodOne yX7_isGoodOne, Cond.code yX7_isGoodOne cX7_isGoodOne 2 (some .boolean)]
def wsL_law0_r22 : List Cond := [Cond.methodLink RL 141 yL_count, Cond.static yL_count, Cond.codeWith yL_count cL_count 4 (some .int) [(0, 9, 12, 13)], Cond.methodLink RL 50 yX6_count, Cond.instanceMethod yX6_count, Cond.selects RX6 yX6_count yX6_count, Cond.code yX6_count cX6_count 2 (some .int), Cond.methodLink RX6 175 yX1_at, Cond.methodLink RL 143 yX7_count, Cond.instanceMethod yX7_count, Cond.selects RX7 yX7_count yX7_count, Cond.code yX7_count cX7_count 2 (some .int), Cond.methodLink RL 144 yL_time, Cond.static yL_time, Cond.codeWith yL_time cL_time 4 (some .int) [(0, 9, 12, 13)], Cond.methodLink RL 53 yX6_time, Cond.instanceMethod yX6_time, Cond.selects RX6 yX6_time yX6_time, Cond.code yX6_time cX6_time 2 (some .int), Cond.methodLink RL 146 yX7_time, Cond.instanceMethod yX7_time, Cond.selects RX7 yX7_time yX7_time, Cond.code yX7_time cX7_time 2 (some .int), Cond.methodLink RL 147 yL_share]
def wsL_law0_r23 : List Cond := [Cond.static yL_share, Cond.codeWith yL_share cL_share 4 (some .int) [(0, 9, 12, 13)], Cond.methodLink RL 56 yX6_share, Cond.instanceMethod yX6_share, Cond.selects RX6 yX6_share yX6_share, Cond.code yX6_share cX6_share 2 (some .int), Cond.methodLink RL 149 yX7_share, Cond.instanceMethod yX7_share, Cond.selects RX7 yX7_share yX7_share, Cond.code yX7_share cX7_share 2 (some .int), Cond.methodLink RL 150 yL_pairTime, Cond.static yL_pairTime, Cond.codeWith yL_pairTime cL_pairTime 5 (some .int) [(0, 10, 13, 13)], Cond.methodLink RL 59 yX6_pairTime, Cond.instanceMethod yX6_pairTime, Cond.selects RX6 yX6_pairTime yX6_pairTime, Cond.code yX6_pairTime cX6_pairTime 3 (some .int), Cond.methodLink RX6 184 yX2_timeOfPair, Cond.methodLink RL 152 yX7_pairTime, Cond.instanceMethod yX7_pairTime, Cond.selects RX7 yX7_pairTime yX7_pairTime, Cond.code yX7_pairTime cX7_pairTime 3 (some .int), Cond.methodLink RL 153 yL_errors, Cond.static yL_errors]
def wsL_law0_r24 : List Cond := [Cond.codeWith yL_errors cL_errors 4 (some .int) [(0, 9, 12, 34)], Cond.methodLink RL 62 yX6_errors, Cond.instanceMethod yX6_errors, Cond.selects RX6 yX6_errors yX6_errors, Cond.code yX6_errors cX6_errors 2 (some .int), Cond.methodLink RL 155 yX7_errors, Cond.instanceMethod yX7_errors, Cond.selects RX7 yX7_errors yX7_errors, Cond.code yX7_errors cX7_errors 2 (some .int), Cond.methodLink RL 156 yL_errorsOf, Cond.static yL_errorsOf, Cond.codeWith yL_errorsOf cL_errorsOf 4 (some .int) [(0, 9, 12, 34)], Cond.methodLink RL 65 yX6_errorsOf, Cond.instanceMethod yX6_errorsOf, Cond.selects RX6 yX6_errorsOf yX6_errorsOf, Cond.code yX6_errorsOf cX6_errorsOf 2 (some .int), Cond.methodLink RL 158 yX7_errorsOf, Cond.instanceMethod yX7_errorsOf, Cond.selects RX7 yX7_errorsOf yX7_errorsOf, Cond.code yX7_errorsOf cX7_errorsOf 2 (some .int), Cond.methodLink RL 159 yL_wish, Cond.static yL_wish, Cond.codeWith yL_wish cL_wish 4 (some .int) [(0, 6, 9, 34)], Cond.methodLink RL 68 yX6_wish]
def wsL_law0_r25 : List Cond := [Cond.instanceMethod yX6_wish, Cond.selects RX6 yX6_wish yX6_wish, Cond.code yX6_wish cX6_wish 3 none, Cond.methodLink RL 162 yX7_wish, Cond.instanceMethod yX7_wish, Cond.selects RX7 yX7_wish yX7_wish, Cond.code yX7_wish cX7_wish 3 none, Cond.methodLink RL 163 yL_isIn, Cond.static yL_isIn, Cond.codeWith yL_isIn cL_isIn 4 (some .int) [(0, 16, 19, 13)], Cond.methodLink RL 72 yX6_isIn, Cond.instanceMethod yX6_isIn, Cond.selects RX6 yX6_isIn yX6_isIn, Cond.code yX6_isIn cX6_isIn 2 (some .boolean), Cond.methodLink RX6 199 yX4_contains, Cond.methodLink RL 165 yX7_isIn, Cond.instanceMethod yX7_isIn, Cond.selects RX7 yX7_isIn yX7_isIn, Cond.code yX7_isIn cX7_isIn 2 (some .boolean), Cond.methodLink RL 166 yL_isGood, Cond.static yL_isGood, Cond.codeWith yL_isGood cL_isGood 4 (some .int) [(0, 16, 19, 13)], Cond.methodLink RL 76 yX6_isGood, Cond.instanceMethod yX6_isGood]
def wsL_law0_r26 : List Cond := [Cond.selects RX6 yX6_isGood yX6_isGood, Cond.code yX6_isGood cX6_isGood 2 (some .boolean), Cond.methodLink RX6 203 yX2_fulfilsWish, Cond.methodLink RL 168 yX7_isGood, Cond.instanceMethod yX7_isGood, Cond.selects RX7 yX7_isGood yX7_isGood, Cond.code yX7_isGood cX7_isGood 2 (some .boolean), Cond.methodLink RL 169 yX6_weakest, Cond.instanceMethod yX6_weakest, Cond.selects RX6 yX6_weakest yX6_weakest, Cond.code yX6_weakest cX6_weakest 1 (some .int), Cond.methodLink RL 172 yX7_weakest, Cond.instanceMethod yX7_weakest, Cond.selects RX7 yX7_weakest yX7_weakest, Cond.code yX7_weakest cX7_weakest 1 (some .int), Cond.methodLink RL 173 yX6_lessons, Cond.instanceMethod yX6_lessons, Cond.selects RX6 yX6_lessons yX6_lessons, Cond.code yX6_lessons cX6_lessons 1 (some .int), Cond.methodLink RL 176 yX7_lessons, Cond.instanceMethod yX7_lessons, Cond.selects RX7 yX7_lessons yX7_lessons, Cond.code yX7_lessons cX7_lessons 1 (some .int), Cond.methodLink RL 177 yL_speedOf]
def wsL_law0_r27 : List Cond := [Cond.static yL_speedOf, Cond.codeWith yL_speedOf cL_speedOf 4 (some .int) [(0, 9, 12, 13)], Cond.methodLink RL 79 yX6_speedOf, Cond.instanceMethod yX6_speedOf, Cond.selects RX6 yX6_speedOf yX6_speedOf, Cond.code yX6_speedOf cX6_speedOf 2 (some .int), Cond.methodLink RL 179 yX7_speedOf, Cond.instanceMethod yX7_speedOf, Cond.selects RX7 yX7_speedOf yX7_speedOf, Cond.code yX7_speedOf cX7_speedOf 2 (some .int), Cond.methodLink RL 180 yX6_falls, Cond.instanceMethod yX6_falls, Cond.selects RX6 yX6_falls yX6_falls, Cond.code yX6_falls cX6_falls 1 (some .int), Cond.methodLink RX6 212 yX5_fallsAtTheEnd, Cond.instanceMethod yX5_fallsAtTheEnd, Cond.selects RX5 yX5_fallsAtTheEnd yX5_fallsAtTheEnd, Cond.code yX5_fallsAtTheEnd cX5_fallsAtTheEnd 3 (some .int), Cond.methodLink RX5 27 yX1_at, Cond.methodLink RL 183 yX7_falls, Cond.instanceMethod yX7_falls, Cond.selects RX7 yX7_falls yX7_falls, Cond.code yX7_falls cX7_falls 2 (some .int), Cond.methodLink RL 184 yX6_endDay]
def wsL_law0_r28 : List Cond := [Cond.instanceMethod yX6_endDay, Cond.selects RX6 yX6_endDay yX6_endDay, Cond.code yX6_endDay cX6_endDay 2 (some .int), Cond.methodLink RX6 215 yX2_halveCounts, Cond.instanceMethod yX2_halveCounts, Cond.selects RX2 yX2_halveCounts yX2_halveCounts, Cond.code yX2_halveCounts cX2_halveCounts 2 none, Cond.methodLink RL 187 yX7_endDay, Cond.instanceMethod yX7_endDay, Cond.selects RX7 yX7_endDay yX7_endDay, Cond.code yX7_endDay cX7_endDay 3 (some .int), Cond.methodLink RL 188 yX6_strokes, Cond.instanceMethod yX6_strokes, Cond.selects RX6 yX6_strokes yX6_strokes, Cond.code yX6_strokes cX6_strokes 1 (some .int), Cond.methodLink RL 191 yX7_strokes, Cond.instanceMethod yX7_strokes, Cond.selects RX7 yX7_strokes yX7_strokes, Cond.code yX7_strokes cX7_strokes 1 (some .int)]
def wsL_law0 : List Cond := (wsL_law0_r1 ++ (wsL_law0_r2 ++ (wsL_law0_r3 ++ (wsL_law0_r4 ++ (wsL_law0_r5 ++ (wsL_law0_r6 ++ (wsL_law0_r7 ++ (wsL_law0_r8 ++ (wsL_law0_r9 ++ (wsL_law0_r10 ++ (wsL_law0_r11 ++ (wsL_law0_r12 ++ (wsL_law0_r13 ++ (wsL_law0_r14 ++ (wsL_law0_r15 ++ (wsL_law0_r16 ++ (wsL_law0_r17 ++ (wsL_law0_r18 ++ (wsL_law0_r19 ++ (wsL_law0_r20 ++ (wsL_law0_r21 ++ (wsL_law0_r22 ++ (wsL_law0_r23 ++ (wsL_law0_r24 ++ (wsL_law0_r25 ++ (wsL_law0_r26 ++ (wsL_law0_r27 ++ wsL_law0_r28))))))))))))))))))))))))))) ++ wsX60 ++ wsX70 ++ wsX00 ++ wsX20 ++ wsX40 ++ wsX30 ++ wsX50 ++ wsX10 ++ ([] : List Cond)
def wsL_law : List Cond := wsL_law0 ++ (vx_atS RX6 74 "java/lang/IndexOutOfBoundsException" ["java/lang/RuntimeException", "java/lang/Exception"]).filter goodWord ++ (vx_atS RX6 100 "java/lang/IllegalStateException" ["java/lang/RuntimeException", "java/lang/Exception"]).filter goodWord ++ (vx_atS RX6 111 "java/lang/IllegalArgumentException" ["java/lang/RuntimeException", "java/lang/Exception"]).filter goodWord
abbrev vwCl : List vw_C := [(RX0, TX0, 2), (RX1, TX1, 1), (RX2, TX2, 6), (RX3, TX3, 6), (RX4, TX4, 2), (RX5, TX5, 2), (RX6, TX6, 8), (RX7, TX7, 20)]
end
section
/-! the words of the law among those of the tables, by their places (in the stead of one long row) -/
theorem mem_r {big : List Cond} (ws : List Cond) (ps : List Nat) (hp : ws = ps.filterMap (fun i => big[i]?)) : ∀ w ∈ ws, w ∈ big := by
  intro w hw
  rw [hp] at hw
  obtain ⟨i, -, hi⟩ := List.mem_filterMap.mp hw
  exact List.mem_of_getElem? hi
set_option maxRecDepth 20000 in
theorem wsL_law_m1 : ∀ w ∈ wsL_law0_r1, w ∈ lw_tbl := mem_r _ [38, 39, 22, 668, 669, 31, 914, 40, 41, 42, 43, 44, 45, 46, 47, 23, 175, 80, 81, 27, 176, 112, 113, 28] (by decide +kernel)
set_option maxRecDepth 20000 in
theorem wsL_law_m2 : ∀ w ∈ wsL_law0_r2, w ∈ lw_tbl := mem_r _ [177, 126, 127, 29, 178, 156, 157, 30, 179, 173, 53, 24, 180, 181, 182, 48, 49, 50, 51, 52, 73, 74, 54, 55] (by decide +kernel)
set_option maxRecDepth 20000 in
theorem wsL_law_m3 : ∀ w ∈ wsL_law0_r3, w ∈ lw_tbl := mem_r _ [56, 57, 58, 59, 25, 60, 68, 64, 61, 62, 26, 63, 69, 70, 71, 72, 83, 84, 85, 86, 88, 90, 92, 94] (by decide +kernel)
set_option maxRecDepth 20000 in
theorem wsL_law_m4 : ∀ w ∈ wsL_law0_r4, w ∈ lw_tbl := mem_r _ [95, 97, 87, 114, 115, 116, 117, 125, 118, 119, 129, 130, 131, 132, 134, 135, 136, 138, 140, 142, 133, 159, 160, 161] (by decide +kernel)
set_option maxRecDepth 20000 in
theorem wsL_law_m5 : ∀ w ∈ wsL_law0_r5, w ∈ lw_tbl := mem_r _ [162, 164, 166, 163, 174, 670, 671, 672, 673, 675, 676, 677, 678, 679, 680, 681, 682, 687, 688, 689, 690, 692, 272, 273] (by decide +kernel)
set_option maxRecDepth 20000 in
theorem wsL_law_m6 : ∀ w ∈ wsL_law0_r6, w ∈ lw_tbl := mem_r _ [21, 274, 275, 276, 277, 278, 279, 286, 35, 280, 281, 282, 283, 284, 285, 355, 356, 357, 358, 359, 221, 222, 223, 739] (by decide +kernel)
set_option maxRecDepth 20000 in
theorem wsL_law_m7 : ∀ w ∈ wsL_law0_r7, w ∈ lw_tbl := mem_r _ [740, 741, 742, 743, 744, 745, 746, 747, 748, 749, 751, 8, 752, 674, 753, 755, 9, 756, 735, 736, 737, 738, 360, 361] (by decide +kernel)
set_option maxRecDepth 20000 in
theorem wsL_law_m8 : ∀ w ∈ wsL_law0_r8, w ∈ lw_tbl := mem_r _ [362, 363, 364, 365, 366, 367, 368, 369, 370, 371, 373, 2, 374, 757, 758, 759, 760, 761, 763, 10, 764, 377, 378, 379] (by decide +kernel)
set_option maxRecDepth 20000 in
theorem wsL_law_m9 : ∀ w ∈ wsL_law0_r9, w ∈ lw_tbl := mem_r _ [380, 381, 382, 383, 384, 385, 386, 387, 388, 389, 390, 391, 393, 3, 394, 765, 766, 767, 768, 769, 771, 11, 772, 395] (by decide +kernel)
set_option maxRecDepth 20000 in
theorem wsL_law_m10 : ∀ w ∈ wsL_law0_r10, w ∈ lw_tbl := mem_r _ [396, 397, 398, 399, 400, 401, 402, 403, 404, 405, 773, 774, 775, 776, 777, 779, 12, 780, 406, 407, 408, 409, 410, 411] (by decide +kernel)
set_option maxRecDepth 20000 in
theorem wsL_law_m11 : ∀ w ∈ wsL_law0_r11, w ∈ lw_tbl := mem_r _ [412, 413, 418, 36, 414, 415, 416, 417, 434, 435, 436, 437, 438, 781, 782, 783, 784, 683, 785, 787, 13, 788, 439, 440] (by decide +kernel)
set_option maxRecDepth 20000 in
theorem wsL_law_m12 : ∀ w ∈ wsL_law0_r12, w ∈ lw_tbl := mem_r _ [441, 442, 443, 444, 445, 446, 447, 37, 233, 234, 235, 236, 237, 238, 239, 240, 241, 242, 243, 244, 245, 463, 464, 465] (by decide +kernel)
set_option maxRecDepth 20000 in
theorem wsL_law_m13 : ∀ w ∈ wsL_law0_r13, w ∈ lw_tbl := mem_r _ [466, 467, 468, 469, 470, 471, 472, 473, 789, 790, 791, 792, 793, 795, 14, 796, 797, 799, 15, 800, 200, 201, 202, 203] (by decide +kernel)
set_option maxRecDepth 20000 in
theorem wsL_law_m14 : ∀ w ∈ wsL_law0_r14, w ∈ lw_tbl := mem_r _ [801, 802, 803, 804, 474, 475, 476, 477, 478, 479, 480, 482, 483, 484, 485, 220, 805, 806, 807, 808, 204, 205, 206, 207] (by decide +kernel)
set_option maxRecDepth 20000 in
theorem wsL_law_m15 : ∀ w ∈ wsL_law0_r15, w ∈ lw_tbl := mem_r _ [809, 810, 811, 812, 684, 486, 487, 488, 489, 490, 491, 492, 493, 494, 495, 498, 500, 4, 501, 502, 503, 504, 505, 506] (by decide +kernel)
set_option maxRecDepth 20000 in
theorem wsL_law_m16 : ∀ w ∈ wsL_law0_r16, w ∈ lw_tbl := mem_r _ [507, 508, 509, 510, 511, 512, 513, 514, 515, 516, 517, 518, 267, 519, 520, 521, 522, 523, 524, 525, 526, 527, 528, 813] (by decide +kernel)
set_option maxRecDepth 20000 in
theorem wsL_law_m17 : ∀ w ∈ wsL_law0_r17, w ∈ lw_tbl := mem_r _ [814, 815, 816, 685, 693, 817, 819, 16, 820, 529, 530, 531, 532, 533, 534, 535, 537, 538, 539, 540, 821, 822, 823, 824] (by decide +kernel)
set_option maxRecDepth 20000 in
theorem wsL_law_m18 : ∀ w ∈ wsL_law0_r18, w ∈ lw_tbl := mem_r _ [686, 208, 209, 210, 211, 212, 213, 214, 215, 224, 216, 218, 0, 219, 825, 826, 827, 828, 829, 831, 17, 832, 833, 225] (by decide +kernel)
set_option maxRecDepth 20000 in
theorem wsL_law_m19 : ∀ w ∈ wsL_law0_r19, w ∈ lw_tbl := mem_r _ [226, 227, 228, 834, 835, 836, 837, 541, 542, 543, 544, 545, 546, 547, 548, 549, 550, 551, 553, 554, 555, 556, 557, 559] (by decide +kernel)
set_option maxRecDepth 20000 in
theorem wsL_law_m20 : ∀ w ∈ wsL_law0_r20, w ∈ lw_tbl := mem_r _ [5, 560, 561, 562, 563, 564, 565, 566, 567, 568, 569, 571, 6, 572, 573, 574, 575, 576, 577, 579, 7, 580, 581, 582] (by decide +kernel)
set_option maxRecDepth 20000 in
theorem wsL_law_m21 : ∀ w ∈ wsL_law0_r21, w ∈ lw_tbl := mem_r _ [583, 584, 585, 586, 587, 588, 589, 838, 839, 840, 841, 691, 842, 844, 18, 845, 846, 848, 19, 849, 850, 852, 20, 853] (by decide +kernel)
set_option maxRecDepth 20000 in
theorem wsL_law_m22 : ∀ w ∈ wsL_law0_r22, w ∈ lw_tbl := mem_r _ [590, 591, 592, 593, 594, 595, 596, 597, 854, 855, 856, 857, 598, 599, 600, 601, 602, 603, 604, 858, 859, 860, 861, 605] (by decide +kernel)
set_option maxRecDepth 20000 in
theorem wsL_law_m23 : ∀ w ∈ wsL_law0_r23, w ∈ lw_tbl := mem_r _ [606, 607, 608, 609, 610, 611, 862, 863, 864, 865, 612, 613, 614, 615, 616, 617, 618, 619, 866, 867, 868, 869, 620, 621] (by decide +kernel)
set_option maxRecDepth 20000 in
theorem wsL_law_m24 : ∀ w ∈ wsL_law0_r24, w ∈ lw_tbl := mem_r _ [622, 623, 624, 625, 626, 870, 871, 872, 873, 628, 629, 630, 631, 632, 633, 634, 874, 875, 876, 877, 636, 637, 638, 639] (by decide +kernel)
set_option maxRecDepth 20000 in
theorem wsL_law_m25 : ∀ w ∈ wsL_law0_r25, w ∈ lw_tbl := mem_r _ [640, 641, 642, 878, 879, 880, 881, 644, 645, 646, 647, 648, 649, 650, 651, 882, 883, 884, 885, 652, 653, 654, 655, 656] (by decide +kernel)
set_option maxRecDepth 20000 in
theorem wsL_law_m26 : ∀ w ∈ wsL_law0_r26, w ∈ lw_tbl := mem_r _ [657, 658, 659, 886, 887, 888, 889, 229, 230, 231, 232, 890, 891, 892, 893, 246, 247, 248, 249, 894, 895, 896, 897, 660] (by decide +kernel)
set_option maxRecDepth 20000 in
theorem wsL_law_m27 : ∀ w ∈ wsL_law0_r27, w ∈ lw_tbl := mem_r _ [661, 662, 663, 664, 665, 666, 898, 899, 900, 901, 250, 251, 252, 253, 254, 255, 256, 257, 258, 902, 903, 904, 905, 259] (by decide +kernel)
set_option maxRecDepth 20000 in
theorem wsL_law_m28 : ∀ w ∈ wsL_law0_r28, w ∈ lw_tbl := mem_r _ [260, 261, 262, 263, 264, 265, 266, 906, 907, 908, 909, 268, 269, 270, 271, 910, 911, 912, 913] (by decide +kernel)
set_option maxRecDepth 20000 in
theorem wsL_law_f6 : ∀ w ∈ wsX60, w ∈ lw_tbl := mem_r _ [183, 185, 187, 189, 191, 193, 195, 197] (by decide +kernel)
set_option maxRecDepth 20000 in
theorem wsL_law_f7 : ∀ w ∈ wsX70, w ∈ lw_tbl := mem_r _ [694, 696, 698, 700, 702, 704, 706, 708, 710, 712, 714, 716, 718, 720, 722, 724, 726, 728, 730, 732] (by decide +kernel)
set_option maxRecDepth 20000 in
theorem wsL_law_f0 : ∀ w ∈ wsX00, w ∈ lw_tbl := mem_r _ [75, 77] (by decide +kernel)
set_option maxRecDepth 20000 in
theorem wsL_law_f2 : ∀ w ∈ wsX20, w ∈ lw_tbl := mem_r _ [99, 101, 103, 105, 107, 109] (by decide +kernel)
set_option maxRecDepth 20000 in
theorem wsL_law_f4 : ∀ w ∈ wsX40, w ∈ lw_tbl := mem_r _ [120, 122] (by decide +kernel)
set_option maxRecDepth 20000 in
theorem wsL_law_f3 : ∀ w ∈ wsX30, w ∈ lw_tbl := mem_r _ [143, 145, 147, 149, 151, 153] (by decide +kernel)
set_option maxRecDepth 20000 in
theorem wsL_law_f5 : ∀ w ∈ wsX50, w ∈ lw_tbl := mem_r _ [168, 170] (by decide +kernel)
set_option maxRecDepth 20000 in
theorem wsL_law_f1 : ∀ w ∈ wsX10, w ∈ lw_tbl := mem_r _ [65] (by decide +kernel)
theorem wsL_law_in0 : ∀ w ∈ wsL_law0, w ∈ lw_tbl := (fun w h => (List.mem_append.mp h).elim ((fun w h => (List.mem_append.mp h).elim ((fun w h => (List.mem_append.mp h).elim ((fun w h => (List.mem_append.mp h).elim ((fun w h => (List.mem_append.mp h).elim ((fun w h => (List.mem_append.mp h).elim ((fun w h => (List.mem_append.mp h).elim ((fun w h => (List.mem_append.mp h).elim ((fun w h => (List.mem_append.mp h).elim ((fun w h => (List.mem_append.mp h).elim (wsL_law_m1 w) ((fun w h => (List.mem_append.mp h).elim (wsL_law_m2 w) ((fun w h => (List.mem_append.mp h).elim (wsL_law_m3 w) ((fun w h => (List.mem_append.mp h).elim (wsL_law_m4 w) ((fun w h => (List.mem_append.mp h).elim (wsL_law_m5 w) ((fun w h => (List.mem_append.mp h).elim (wsL_law_m6 w) ((fun w h => (List.mem_append.mp h).elim (wsL_law_m7 w) ((fun w h => (List.mem_append.mp h).elim (wsL_law_m8 w) ((fun w h => (List.mem_append.mp h).elim (wsL_law_m9 w) ((fun w h => (List.mem_append.mp h).elim (wsL_law_m10 w) ((fun w h => (List.mem_append.mp h).elim (wsL_law_m11 w) ((fun w h => (List.mem_append.mp h).elim (wsL_law_m12 w) ((fun w h => (List.mem_append.mp h).elim (wsL_law_m13 w) ((fun w h => (List.mem_append.mp h).elim (wsL_law_m14 w) ((fun w h => (List.mem_append.mp h).elim (wsL_law_m15 w) ((fun w h => (List.mem_append.mp h).elim (wsL_law_m16 w) ((fun w h => (List.mem_append.mp h).elim (wsL_law_m17 w) ((fun w h => (List.mem_append.mp h).elim (wsL_law_m18 w) ((fun w h => (List.mem_append.mp h).elim (wsL_law_m19 w) ((fun w h => (List.mem_append.mp h).elim (wsL_law_m20 w) ((fun w h => (List.mem_append.mp h).elim (wsL_law_m21 w) ((fun w h => (List.mem_append.mp h).elim (wsL_law_m22 w) ((fun w h => (List.mem_append.mp h).elim (wsL_law_m23 w) ((fun w h => (List.mem_append.mp h).elim (wsL_law_m24 w) ((fun w h => (List.mem_append.mp h).elim (wsL_law_m25 w) ((fun w h => (List.mem_append.mp h).elim (wsL_law_m26 w) ((fun w h => (List.mem_append.mp h).elim (wsL_law_m27 w) ((wsL_law_m28) w)) w)) w)) w)) w)) w)) w)) w)) w)) w)) w)) w)) w)) w)) w)) w)) w)) w)) w)) w)) w)) w)) w)) w)) w)) w)) w)) w) (wsL_law_f6 w)) w) (wsL_law_f7 w)) w) (wsL_law_f0 w)) w) (wsL_law_f2 w)) w) (wsL_law_f4 w)) w) (wsL_law_f3 w)) w) (wsL_law_f5 w)) w) (wsL_law_f1 w)) w) (fun h => absurd h List.not_mem_nil))
theorem wsL_law_x0 : ∀ w ∈ (vx_atS RX6 74 "java/lang/IndexOutOfBoundsException" ["java/lang/RuntimeException", "java/lang/Exception"]).filter goodWord, w ∈ lw_tbl := by decide +kernel
theorem wsL_law_x1 : ∀ w ∈ (vx_atS RX6 100 "java/lang/IllegalStateException" ["java/lang/RuntimeException", "java/lang/Exception"]).filter goodWord, w ∈ lw_tbl := by decide +kernel
theorem wsL_law_x2 : ∀ w ∈ (vx_atS RX6 111 "java/lang/IllegalArgumentException" ["java/lang/RuntimeException", "java/lang/Exception"]).filter goodWord, w ∈ lw_tbl := by decide +kernel
theorem wsL_law_in : ∀ w ∈ wsL_law, w ∈ lw_tbl := fun w h => (List.mem_append.mp h).elim (fun h => (List.mem_append.mp h).elim (fun h => (List.mem_append.mp h).elim (fun h => wsL_law_in0 w h) (fun h => wsL_law_x0 w h)) (fun h => wsL_law_x1 w h)) (fun h => wsL_law_x2 w h)
theorem inlX0 : ∀ w ∈ wsX00, w ∈ wsL_law := fun _ h => List.mem_append_left _ (List.mem_append_left _ (List.mem_append_left _ (List.mem_append_left _ (List.mem_append_left _ (List.mem_append_left _ (List.mem_append_left _ (List.mem_append_left _ (List.mem_append_left _ (List.mem_append_right _ h)))))))))
theorem inX0 : ∀ w ∈ wsX00, w ∈ lw_tbl := fun w h => wsL_law_in w (inlX0 w h)
theorem inlX1 : ∀ w ∈ wsX10, w ∈ wsL_law := fun _ h => List.mem_append_left _ (List.mem_append_left _ (List.mem_append_left _ (List.mem_append_left _ (List.mem_append_right _ h))))
theorem inX1 : ∀ w ∈ wsX10, w ∈ lw_tbl := fun w h => wsL_law_in w (inlX1 w h)
theorem inlX2 : ∀ w ∈ wsX20, w ∈ wsL_law := fun _ h => List.mem_append_left _ (List.mem_append_left _ (List.mem_append_left _ (List.mem_append_left _ (List.mem_append_left _ (List.mem_append_left _ (List.mem_append_left _ (List.mem_append_left _ (List.mem_append_right _ h))))))))
theorem inX2 : ∀ w ∈ wsX20, w ∈ lw_tbl := fun w h => wsL_law_in w (inlX2 w h)
theorem inlX3 : ∀ w ∈ wsX30, w ∈ wsL_law := fun _ h => List.mem_append_left _ (List.mem_append_left _ (List.mem_append_left _ (List.mem_append_left _ (List.mem_append_left _ (List.mem_append_left _ (List.mem_append_right _ h))))))
theorem inX3 : ∀ w ∈ wsX30, w ∈ lw_tbl := fun w h => wsL_law_in w (inlX3 w h)
theorem inlX4 : ∀ w ∈ wsX40, w ∈ wsL_law := fun _ h => List.mem_append_left _ (List.mem_append_left _ (List.mem_append_left _ (List.mem_append_left _ (List.mem_append_left _ (List.mem_append_left _ (List.mem_append_left _ (List.mem_append_right _ h)))))))
theorem inX4 : ∀ w ∈ wsX40, w ∈ lw_tbl := fun w h => wsL_law_in w (inlX4 w h)
theorem inlX5 : ∀ w ∈ wsX50, w ∈ wsL_law := fun _ h => List.mem_append_left _ (List.mem_append_left _ (List.mem_append_left _ (List.mem_append_left _ (List.mem_append_left _ (List.mem_append_right _ h)))))
theorem inX5 : ∀ w ∈ wsX50, w ∈ lw_tbl := fun w h => wsL_law_in w (inlX5 w h)
theorem inlX6 : ∀ w ∈ wsX60, w ∈ wsL_law := fun _ h => List.mem_append_left _ (List.mem_append_left _ (List.mem_append_left _ (List.mem_append_left _ (List.mem_append_left _ (List.mem_append_left _ (List.mem_append_left _ (List.mem_append_left _ (List.mem_append_left _ (List.mem_append_left _ (List.mem_append_left _ (List.mem_append_right _ h)))))))))))
theorem inX6 : ∀ w ∈ wsX60, w ∈ lw_tbl := fun w h => wsL_law_in w (inlX6 w h)
theorem inlX7 : ∀ w ∈ wsX70, w ∈ wsL_law := fun _ h => List.mem_append_left _ (List.mem_append_left _ (List.mem_append_left _ (List.mem_append_left _ (List.mem_append_left _ (List.mem_append_left _ (List.mem_append_left _ (List.mem_append_left _ (List.mem_append_left _ (List.mem_append_left _ (List.mem_append_right _ h))))))))))
theorem inX7 : ∀ w ∈ wsX70, w ∈ lw_tbl := fun w h => wsL_law_in w (inlX7 w h)
theorem inJx145de : ∀ w ∈ wsJx145de0, w ∈ lw_tbl := by decide +kernel
theorem inJ9 : ∀ w ∈ wsJ90, w ∈ lw_tbl := by decide +kernel
theorem inJ0 : ∀ w ∈ wsJ00, w ∈ lw_tbl := by decide +kernel
theorem inJ7 : ∀ w ∈ wsJ70, w ∈ lw_tbl := by decide +kernel
end
section
set_option maxRecDepth 20000 in
theorem ggX0_init_X1_init : GoodIn wsX0_init wsX1_init := goodIn_r _ [11, 12, 2, 3, 13, 14, 15, 16, 17, 18, 19, 20, 21, 22, 27] (by decide +kernel) (by decide +kernel)
set_option maxRecDepth 20000 in
theorem gX0_init_X1_init : GoodIn wsX0_init (wsX1_init) := ggX0_init_X1_init
set_option maxRecDepth 20000 in
theorem ggX0_init_X1_set : GoodIn wsX0_init wsX1_set := goodIn_r _ [26, 18, 27] (by decide +kernel) (by decide +kernel)
set_option maxRecDepth 20000 in
theorem gX0_init_X1_set : GoodIn wsX0_init (wsV RX0 23 RX1 yX1_set wsX1_set) := goodIn_app (goodIn_of _ (by decide +kernel)) ggX0_init_X1_set
theorem dX0_init_0 : decode cX0_init 0 = .ok (.aload_n 0, 1) := by decide +kernel
theorem dX0_init_1 : decode cX0_init 1 = .ok (.invokespecial 3, 3) := by decide +kernel
theorem dX0_init_4 : decode cX0_init 4 = .ok (.aload_n 0, 1) := by decide +kernel
theorem dX0_init_5 : decode cX0_init 5 = .ok (.new 9, 3) := by decide +kernel
theorem dX0_init_8 : decode cX0_init 8 = .ok (.dup, 1) := by decide +kernel
theorem dX0_init_9 : decode cX0_init 9 = .ok (.bipush 26, 2) := by decide +kernel
theorem dX0_init_11 : decode cX0_init 11 = .ok (.iconst 0, 1) := by decide +kernel
theorem dX0_init_12 : decode cX0_init 12 = .ok (.invokespecial 11, 3) := by decide +kernel
theorem dX0_init_15 : decode cX0_init 15 = .ok (.putfield 14, 3) := by decide +kernel
theorem dX0_init_18 : decode cX0_init 18 = .ok (.aload_n 0, 1) := by decide +kernel
theorem dX0_init_19 : decode cX0_init 19 = .ok (.new 9, 3) := by decide +kernel
theorem dX0_init_22 : decode cX0_init 22 = .ok (.dup, 1) := by decide +kernel
theorem dX0_init_23 : decode cX0_init 23 = .ok (.bipush 30, 2) := by decide +kernel
theorem dX0_init_25 : decode cX0_init 25 = .ok (.iconst (-1), 1) := by decide +kernel
theorem dX0_init_26 : decode cX0_init 26 = .ok (.invokespecial 11, 3) := by decide +kernel
theorem dX0_init_29 : decode cX0_init 29 = .ok (.putfield 20, 3) := by decide +kernel
theorem dX0_init_32 : decode cX0_init 32 = .ok (.iconst 0, 1) := by decide +kernel
theorem dX0_init_33 : decode cX0_init 33 = .ok (.istore_n 1, 1) := by decide +kernel
theorem dX0_init_34 : decode cX0_init 34 = .ok (.iload_n 1, 1) := by decide +kernel
theorem dX0_init_35 : decode cX0_init 35 = .ok (.bipush 26, 2) := by decide +kernel
theorem dX0_init_37 : decode cX0_init 37 = .ok (.if_icmp .ge 27, 3) := by decide +kernel
theorem dX0_init_40 : decode cX0_init 40 = .ok (.aload_n 0, 1) := by decide +kernel
theorem dX0_init_41 : decode cX0_init 41 = .ok (.getfield 14, 3) := by decide +kernel
theorem dX0_init_44 : decode cX0_init 44 = .ok (.iload_n 1, 1) := by decide +kernel
theorem dX0_init_45 : decode cX0_init 45 = .ok (.iload_n 1, 1) := by decide +kernel
theorem dX0_init_46 : decode cX0_init 46 = .ok (.invokevirtual 23, 3) := by decide +kernel
theorem dX0_init_49 : decode cX0_init 49 = .ok (.aload_n 0, 1) := by decide +kernel
theorem dX0_init_50 : decode cX0_init 50 = .ok (.getfield 20, 3) := by decide +kernel
theorem dX0_init_53 : decode cX0_init 53 = .ok (.iload_n 1, 1) := by decide +kernel
theorem dX0_init_54 : decode cX0_init 54 = .ok (.iload_n 1, 1) := by decide +kernel
theorem dX0_init_55 : decode cX0_init 55 = .ok (.invokevirtual 23, 3) := by decide +kernel
theorem dX0_init_58 : decode cX0_init 58 = .ok (.iinc 1 1, 3) := by decide +kernel
theorem dX0_init_61 : decode cX0_init 61 = .ok (.goto (-27), 3) := by decide +kernel
theorem dX0_init_64 : decode cX0_init 64 = .ok (.return_, 1) := by decide +kernel
set_option maxRecDepth 20000 in
theorem ggX0_move_X1_at : GoodIn wsX0_move wsX1_at := goodIn_r _ [7, 8, 15] (by decide +kernel) (by decide +kernel)
set_option maxRecDepth 20000 in
theorem gX0_move_X1_at : GoodIn wsX0_move (wsV RX0 26 RX1 yX1_at wsX1_at) := goodIn_app (goodIn_of _ (by decide +kernel)) ggX0_move_X1_at
set_option maxRecDepth 20000 in
theorem ggX0_move_X1_set : GoodIn wsX0_move wsX1_set := goodIn_r _ [12, 8, 15] (by decide +kernel) (by decide +kernel)
set_option maxRecDepth 20000 in
theorem gX0_move_X1_set : GoodIn wsX0_move (wsV RX0 23 RX1 yX1_set wsX1_set) := goodIn_app (goodIn_of _ (by decide +kernel)) ggX0_move_X1_set
theorem dX0_move_0 : decode cX0_move 0 = .ok (.aload_n 0, 1) := by decide +kernel
theorem dX0_move_1 : decode cX0_move 1 = .ok (.getfield 20, 3) := by decide +kernel
theorem dX0_move_4 : decode cX0_move 4 = .ok (.iload_n 2, 1) := by decide +kernel
theorem dX0_move_5 : decode cX0_move 5 = .ok (.invokevirtual 26, 3) := by decide +kernel
theorem dX0_move_8 : decode cX0_move 8 = .ok (.istore_n 3, 1) := by decide +kernel
theorem dX0_move_9 : decode cX0_move 9 = .ok (.aload_n 0, 1) := by decide +kernel
theorem dX0_move_10 : decode cX0_move 10 = .ok (.getfield 14, 3) := by decide +kernel
theorem dX0_move_13 : decode cX0_move 13 = .ok (.iload_n 1, 1) := by decide +kernel
theorem dX0_move_14 : decode cX0_move 14 = .ok (.invokevirtual 26, 3) := by decide +kernel
theorem dX0_move_17 : decode cX0_move 17 = .ok (.istore 4, 2) := by decide +kernel
theorem dX0_move_19 : decode cX0_move 19 = .ok (.aload_n 0, 1) := by decide +kernel
theorem dX0_move_20 : decode cX0_move 20 = .ok (.getfield 20, 3) := by decide +kernel
theorem dX0_move_23 : decode cX0_move 23 = .ok (.iload 4, 2) := by decide +kernel
theorem dX0_move_25 : decode cX0_move 25 = .ok (.iload_n 3, 1) := by decide +kernel
theorem dX0_move_26 : decode cX0_move 26 = .ok (.invokevirtual 23, 3) := by decide +kernel
theorem dX0_move_29 : decode cX0_move 29 = .ok (.iload_n 3, 1) := by decide +kernel
theorem dX0_move_30 : decode cX0_move 30 = .ok (.iconst (-1), 1) := by decide +kernel
theorem dX0_move_31 : decode cX0_move 31 = .ok (.if_icmp .eq 13, 3) := by decide +kernel
theorem dX0_move_34 : decode cX0_move 34 = .ok (.aload_n 0, 1) := by decide +kernel
theorem dX0_move_35 : decode cX0_move 35 = .ok (.getfield 14, 3) := by decide +kernel
theorem dX0_move_38 : decode cX0_move 38 = .ok (.iload_n 3, 1) := by decide +kernel
theorem dX0_move_39 : decode cX0_move 39 = .ok (.iload 4, 2) := by decide +kernel
theorem dX0_move_41 : decode cX0_move 41 = .ok (.invokevirtual 23, 3) := by decide +kernel
theorem dX0_move_44 : decode cX0_move 44 = .ok (.aload_n 0, 1) := by decide +kernel
theorem dX0_move_45 : decode cX0_move 45 = .ok (.getfield 20, 3) := by decide +kernel
theorem dX0_move_48 : decode cX0_move 48 = .ok (.iload_n 2, 1) := by decide +kernel
theorem dX0_move_49 : decode cX0_move 49 = .ok (.iload_n 1, 1) := by decide +kernel
theorem dX0_move_50 : decode cX0_move 50 = .ok (.invokevirtual 23, 3) := by decide +kernel
theorem dX0_move_53 : decode cX0_move 53 = .ok (.aload_n 0, 1) := by decide +kernel
theorem dX0_move_54 : decode cX0_move 54 = .ok (.getfield 14, 3) := by decide +kernel
theorem dX0_move_57 : decode cX0_move 57 = .ok (.iload_n 1, 1) := by decide +kernel
theorem dX0_move_58 : decode cX0_move 58 = .ok (.iload_n 2, 1) := by decide +kernel
theorem dX0_move_59 : decode cX0_move 59 = .ok (.invokevirtual 23, 3) := by decide +kernel
theorem dX0_move_62 : decode cX0_move 62 = .ok (.iload_n 3, 1) := by decide +kernel
theorem dX0_move_63 : decode cX0_move 63 = .ok (.ireturn, 1) := by decide +kernel
set_option maxRecDepth 20000 in
theorem ggX0_fingerOf_X0_columnOf : GoodIn wsX0_fingerOf wsX0_columnOf := goodIn_r _ [5, 6, 7, 8, 9, 10, 11, 12, 13, 14, 15] (by decide +kernel) (by decide +kernel)
set_option maxRecDepth 20000 in
theorem gX0_fingerOf_X0_columnOf : GoodIn wsX0_fingerOf (wsV RX0 30 RX0 yX0_columnOf wsX0_columnOf) := goodIn_app (goodIn_of _ (by decide +kernel)) ggX0_fingerOf_X0_columnOf
theorem dX0_fingerOf_0 : decode cX0_fingerOf 0 = .ok (.aload_n 0, 1) := by decide +kernel
theorem dX0_fingerOf_1 : decode cX0_fingerOf 1 = .ok (.iload_n 1, 1) := by decide +kernel
theorem dX0_fingerOf_2 : decode cX0_fingerOf 2 = .ok (.invokevirtual 30, 3) := by decide +kernel
theorem dX0_fingerOf_5 : decode cX0_fingerOf 5 = .ok (.istore_n 2, 1) := by decide +kernel
theorem dX0_fingerOf_6 : decode cX0_fingerOf 6 = .ok (.iload_n 2, 1) := by decide +kernel
theorem dX0_fingerOf_7 : decode cX0_fingerOf 7 = .ok (.ifCond .lt 19, 3) := by decide +kernel
theorem dX0_fingerOf_10 : decode cX0_fingerOf 10 = .ok (.iload_n 2, 1) := by decide +kernel
theorem dX0_fingerOf_11 : decode cX0_fingerOf 11 = .ok (.getstatic 33, 3) := by decide +kernel
theorem dX0_fingerOf_14 : decode cX0_fingerOf 14 = .ok (.arraylength, 1) := by decide +kernel
theorem dX0_fingerOf_15 : decode cX0_fingerOf 15 = .ok (.if_icmp .ge 11, 3) := by decide +kernel
theorem dX0_fingerOf_18 : decode cX0_fingerOf 18 = .ok (.getstatic 33, 3) := by decide +kernel
theorem dX0_fingerOf_21 : decode cX0_fingerOf 21 = .ok (.iload_n 2, 1) := by decide +kernel
theorem dX0_fingerOf_22 : decode cX0_fingerOf 22 = .ok (.iaload, 1) := by decide +kernel
theorem dX0_fingerOf_23 : decode cX0_fingerOf 23 = .ok (.goto 4, 3) := by decide +kernel
theorem dX0_fingerOf_26 : decode cX0_fingerOf 26 = .ok (.iconst (-1), 1) := by decide +kernel
theorem dX0_fingerOf_27 : decode cX0_fingerOf 27 = .ok (.ireturn, 1) := by decide +kernel
set_option maxRecDepth 20000 in
theorem ggX0_touch_X0_columnOf : GoodIn wsX0_touch wsX0_columnOf := goodIn_r _ [9, 10, 11, 12, 13, 14, 15, 16, 21, 22, 23] (by decide +kernel) (by decide +kernel)
set_option maxRecDepth 20000 in
theorem gX0_touch_X0_columnOf : GoodIn wsX0_touch (wsV RX0 30 RX0 yX0_columnOf wsX0_columnOf) := goodIn_app (goodIn_of _ (by decide +kernel)) ggX0_touch_X0_columnOf
set_option maxRecDepth 20000 in
theorem ggX0_touch_X0_rowOf : GoodIn wsX0_touch wsX0_rowOf := goodIn_r _ [20, 10, 11, 12, 13, 14, 15, 16, 21, 22, 23] (by decide +kernel) (by decide +kernel)
set_option maxRecDepth 20000 in
theorem gX0_touch_X0_rowOf : GoodIn wsX0_touch (wsV RX0 42 RX0 yX0_rowOf wsX0_rowOf) := goodIn_app (goodIn_of _ (by decide +kernel)) ggX0_touch_X0_rowOf
theorem dX0_touch_0 : decode cX0_touch 0 = .ok (.aload_n 0, 1) := by decide +kernel
theorem dX0_touch_1 : decode cX0_touch 1 = .ok (.iload_n 1, 1) := by decide +kernel
theorem dX0_touch_2 : decode cX0_touch 2 = .ok (.invokevirtual 30, 3) := by decide +kernel
theorem dX0_touch_5 : decode cX0_touch 5 = .ok (.aload_n 0, 1) := by decide +kernel
theorem dX0_touch_6 : decode cX0_touch 6 = .ok (.iload_n 2, 1) := by decide +kernel
theorem dX0_touch_7 : decode cX0_touch 7 = .ok (.invokevirtual 30, 3) := by decide +kernel
theorem dX0_touch_10 : decode cX0_touch 10 = .ok (.isub, 1) := by decide +kernel
theorem dX0_touch_11 : decode cX0_touch 11 = .ok (.invokestatic 37, 3) := by decide +kernel
theorem dX0_touch_14 : decode cX0_touch 14 = .ok (.iconst 1, 1) := by decide +kernel
theorem dX0_touch_15 : decode cX0_touch 15 = .ok (.if_icmp .gt 25, 3) := by decide +kernel
theorem dX0_touch_18 : decode cX0_touch 18 = .ok (.aload_n 0, 1) := by decide +kernel
theorem dX0_touch_19 : decode cX0_touch 19 = .ok (.iload_n 1, 1) := by decide +kernel
theorem dX0_touch_20 : decode cX0_touch 20 = .ok (.invokevirtual 42, 3) := by decide +kernel
theorem dX0_touch_23 : decode cX0_touch 23 = .ok (.aload_n 0, 1) := by decide +kernel
theorem dX0_touch_24 : decode cX0_touch 24 = .ok (.iload_n 2, 1) := by decide +kernel
theorem dX0_touch_25 : decode cX0_touch 25 = .ok (.invokevirtual 42, 3) := by decide +kernel
theorem dX0_touch_28 : decode cX0_touch 28 = .ok (.isub, 1) := by decide +kernel
theorem dX0_touch_29 : decode cX0_touch 29 = .ok (.invokestatic 37, 3) := by decide +kernel
theorem dX0_touch_32 : decode cX0_touch 32 = .ok (.iconst 1, 1) := by decide +kernel
theorem dX0_touch_33 : decode cX0_touch 33 = .ok (.if_icmp .gt 7, 3) := by decide +kernel
theorem dX0_touch_36 : decode cX0_touch 36 = .ok (.iconst 1, 1) := by decide +kernel
theorem dX0_touch_37 : decode cX0_touch 37 = .ok (.goto 4, 3) := by decide +kernel
theorem dX0_touch_40 : decode cX0_touch 40 = .ok (.iconst 0, 1) := by decide +kernel
theorem dX0_touch_41 : decode cX0_touch 41 = .ok (.ireturn, 1) := by decide +kernel
set_option maxRecDepth 20000 in
theorem ggX0_mirrorOf_X0_rowOf : GoodIn wsX0_mirrorOf wsX0_rowOf := goodIn_r _ [6, 7, 8, 9, 10, 11, 12, 13, 18, 19, 20] (by decide +kernel) (by decide +kernel)
set_option maxRecDepth 20000 in
theorem gX0_mirrorOf_X0_rowOf : GoodIn wsX0_mirrorOf (wsV RX0 42 RX0 yX0_rowOf wsX0_rowOf) := goodIn_app (goodIn_of _ (by decide +kernel)) ggX0_mirrorOf_X0_rowOf
set_option maxRecDepth 20000 in
theorem ggX0_mirrorOf_X0_columnOf : GoodIn wsX0_mirrorOf wsX0_columnOf := goodIn_r _ [17, 7, 8, 9, 10, 11, 12, 13, 18, 19, 20] (by decide +kernel) (by decide +kernel)
set_option maxRecDepth 20000 in
theorem gX0_mirrorOf_X0_columnOf : GoodIn wsX0_mirrorOf (wsV RX0 30 RX0 yX0_columnOf wsX0_columnOf) := goodIn_app (goodIn_of _ (by decide +kernel)) ggX0_mirrorOf_X0_columnOf
set_option maxRecDepth 20000 in
theorem ggX0_mirrorOf_X1_at : GoodIn wsX0_mirrorOf wsX1_at := goodIn_r _ [12, 13, 20] (by decide +kernel) (by decide +kernel)
set_option maxRecDepth 20000 in
theorem gX0_mirrorOf_X1_at : GoodIn wsX0_mirrorOf (wsV RX0 26 RX1 yX1_at wsX1_at) := goodIn_app (goodIn_of _ (by decide +kernel)) ggX0_mirrorOf_X1_at
theorem dX0_mirrorOf_0 : decode cX0_mirrorOf 0 = .ok (.aload_n 0, 1) := by decide +kernel
theorem dX0_mirrorOf_1 : decode cX0_mirrorOf 1 = .ok (.getfield 20, 3) := by decide +kernel
theorem dX0_mirrorOf_4 : decode cX0_mirrorOf 4 = .ok (.aload_n 0, 1) := by decide +kernel
theorem dX0_mirrorOf_5 : decode cX0_mirrorOf 5 = .ok (.iload_n 1, 1) := by decide +kernel
theorem dX0_mirrorOf_6 : decode cX0_mirrorOf 6 = .ok (.invokevirtual 42, 3) := by decide +kernel
theorem dX0_mirrorOf_9 : decode cX0_mirrorOf 9 = .ok (.bipush 10, 2) := by decide +kernel
theorem dX0_mirrorOf_11 : decode cX0_mirrorOf 11 = .ok (.imul, 1) := by decide +kernel
theorem dX0_mirrorOf_12 : decode cX0_mirrorOf 12 = .ok (.bipush 10, 2) := by decide +kernel
theorem dX0_mirrorOf_14 : decode cX0_mirrorOf 14 = .ok (.iadd, 1) := by decide +kernel
theorem dX0_mirrorOf_15 : decode cX0_mirrorOf 15 = .ok (.iconst 1, 1) := by decide +kernel
theorem dX0_mirrorOf_16 : decode cX0_mirrorOf 16 = .ok (.isub, 1) := by decide +kernel
theorem dX0_mirrorOf_17 : decode cX0_mirrorOf 17 = .ok (.aload_n 0, 1) := by decide +kernel
theorem dX0_mirrorOf_18 : decode cX0_mirrorOf 18 = .ok (.iload_n 1, 1) := by decide +kernel
theorem dX0_mirrorOf_19 : decode cX0_mirrorOf 19 = .ok (.invokevirtual 30, 3) := by decide +kernel
theorem dX0_mirrorOf_22 : decode cX0_mirrorOf 22 = .ok (.isub, 1) := by decide +kernel
theorem dX0_mirrorOf_23 : decode cX0_mirrorOf 23 = .ok (.invokevirtual 26, 3) := by decide +kernel
theorem dX0_mirrorOf_26 : decode cX0_mirrorOf 26 = .ok (.ireturn, 1) := by decide +kernel
set_option maxRecDepth 20000 in
theorem ggX0_columnOf_X1_at : GoodIn wsX0_columnOf wsX1_at := goodIn_r _ [6, 7, 10] (by decide +kernel) (by decide +kernel)
set_option maxRecDepth 20000 in
theorem gX0_columnOf_X1_at : GoodIn wsX0_columnOf (wsV RX0 26 RX1 yX1_at wsX1_at) := goodIn_app (goodIn_of _ (by decide +kernel)) ggX0_columnOf_X1_at
theorem dX0_columnOf_0 : decode cX0_columnOf 0 = .ok (.aload_n 0, 1) := by decide +kernel
theorem dX0_columnOf_1 : decode cX0_columnOf 1 = .ok (.getfield 14, 3) := by decide +kernel
theorem dX0_columnOf_4 : decode cX0_columnOf 4 = .ok (.iload_n 1, 1) := by decide +kernel
theorem dX0_columnOf_5 : decode cX0_columnOf 5 = .ok (.invokevirtual 26, 3) := by decide +kernel
theorem dX0_columnOf_8 : decode cX0_columnOf 8 = .ok (.bipush 10, 2) := by decide +kernel
theorem dX0_columnOf_10 : decode cX0_columnOf 10 = .ok (.irem, 1) := by decide +kernel
theorem dX0_columnOf_11 : decode cX0_columnOf 11 = .ok (.ireturn, 1) := by decide +kernel
set_option maxRecDepth 20000 in
theorem ggX0_rowOf_X1_at : GoodIn wsX0_rowOf wsX1_at := goodIn_r _ [6, 7, 10] (by decide +kernel) (by decide +kernel)
set_option maxRecDepth 20000 in
theorem gX0_rowOf_X1_at : GoodIn wsX0_rowOf (wsV RX0 26 RX1 yX1_at wsX1_at) := goodIn_app (goodIn_of _ (by decide +kernel)) ggX0_rowOf_X1_at
theorem dX0_rowOf_0 : decode cX0_rowOf 0 = .ok (.aload_n 0, 1) := by decide +kernel
theorem dX0_rowOf_1 : decode cX0_rowOf 1 = .ok (.getfield 14, 3) := by decide +kernel
theorem dX0_rowOf_4 : decode cX0_rowOf 4 = .ok (.iload_n 1, 1) := by decide +kernel
theorem dX0_rowOf_5 : decode cX0_rowOf 5 = .ok (.invokevirtual 26, 3) := by decide +kernel
theorem dX0_rowOf_8 : decode cX0_rowOf 8 = .ok (.bipush 10, 2) := by decide +kernel
theorem dX0_rowOf_10 : decode cX0_rowOf 10 = .ok (.idiv, 1) := by decide +kernel
theorem dX0_rowOf_11 : decode cX0_rowOf 11 = .ok (.ireturn, 1) := by decide +kernel
set_option maxRecDepth 20000 in
theorem ggX1_init_J7_fill_53178 : GoodIn wsX1_init wsJ7_fill_53178 := goodIn_r _ [13] (by decide +kernel) (by decide +kernel)
set_option maxRecDepth 20000 in
theorem gX1_init_J7_fill_53178 : GoodIn wsX1_init (va_wsS RX1 21 yJ7_fill_53178 wsJ7_fill_53178) := goodIn_app (goodIn_of _ (by decide +kernel)) ggX1_init_J7_fill_53178
theorem dX1_init_0 : decode cX1_init 0 = .ok (.aload_n 0, 1) := by decide +kernel
theorem dX1_init_1 : decode cX1_init 1 = .ok (.invokespecial 3, 3) := by decide +kernel
theorem dX1_init_4 : decode cX1_init 4 = .ok (.aload_n 0, 1) := by decide +kernel
theorem dX1_init_5 : decode cX1_init 5 = .ok (.iload_n 1, 1) := by decide +kernel
theorem dX1_init_6 : decode cX1_init 6 = .ok (.iconst 0, 1) := by decide +kernel
theorem dX1_init_7 : decode cX1_init 7 = .ok (.invokestatic 9, 3) := by decide +kernel
theorem dX1_init_10 : decode cX1_init 10 = .ok (.newarray .int, 2) := by decide +kernel
theorem dX1_init_12 : decode cX1_init 12 = .ok (.putfield 15, 3) := by decide +kernel
theorem dX1_init_15 : decode cX1_init 15 = .ok (.aload_n 0, 1) := by decide +kernel
theorem dX1_init_16 : decode cX1_init 16 = .ok (.getfield 15, 3) := by decide +kernel
theorem dX1_init_19 : decode cX1_init 19 = .ok (.iload_n 2, 1) := by decide +kernel
theorem dX1_init_20 : decode cX1_init 20 = .ok (.invokestatic 21, 3) := by decide +kernel
theorem dX1_init_23 : decode cX1_init 23 = .ok (.return_, 1) := by decide +kernel
theorem dX1_at_0 : decode cX1_at 0 = .ok (.iload_n 1, 1) := by decide +kernel
theorem dX1_at_1 : decode cX1_at 1 = .ok (.ifCond .lt 21, 3) := by decide +kernel
theorem dX1_at_4 : decode cX1_at 4 = .ok (.iload_n 1, 1) := by decide +kernel
theorem dX1_at_5 : decode cX1_at 5 = .ok (.aload_n 0, 1) := by decide +kernel
theorem dX1_at_6 : decode cX1_at 6 = .ok (.getfield 15, 3) := by decide +kernel
theorem dX1_at_9 : decode cX1_at 9 = .ok (.arraylength, 1) := by decide +kernel
theorem dX1_at_10 : decode cX1_at 10 = .ok (.if_icmp .ge 12, 3) := by decide +kernel
theorem dX1_at_13 : decode cX1_at 13 = .ok (.aload_n 0, 1) := by decide +kernel
theorem dX1_at_14 : decode cX1_at 14 = .ok (.getfield 15, 3) := by decide +kernel
theorem dX1_at_17 : decode cX1_at 17 = .ok (.iload_n 1, 1) := by decide +kernel
theorem dX1_at_18 : decode cX1_at 18 = .ok (.iaload, 1) := by decide +kernel
theorem dX1_at_19 : decode cX1_at 19 = .ok (.goto 4, 3) := by decide +kernel
theorem dX1_at_22 : decode cX1_at 22 = .ok (.iconst (-1), 1) := by decide +kernel
theorem dX1_at_23 : decode cX1_at 23 = .ok (.ireturn, 1) := by decide +kernel
theorem dX1_set_0 : decode cX1_set 0 = .ok (.iload_n 1, 1) := by decide +kernel
theorem dX1_set_1 : decode cX1_set 1 = .ok (.ifCond .lt 19, 3) := by decide +kernel
theorem dX1_set_4 : decode cX1_set 4 = .ok (.iload_n 1, 1) := by decide +kernel
theorem dX1_set_5 : decode cX1_set 5 = .ok (.aload_n 0, 1) := by decide +kernel
theorem dX1_set_6 : decode cX1_set 6 = .ok (.getfield 15, 3) := by decide +kernel
theorem dX1_set_9 : decode cX1_set 9 = .ok (.arraylength, 1) := by decide +kernel
theorem dX1_set_10 : decode cX1_set 10 = .ok (.if_icmp .ge 10, 3) := by decide +kernel
theorem dX1_set_13 : decode cX1_set 13 = .ok (.aload_n 0, 1) := by decide +kernel
theorem dX1_set_14 : decode cX1_set 14 = .ok (.getfield 15, 3) := by decide +kernel
theorem dX1_set_17 : decode cX1_set 17 = .ok (.iload_n 1, 1) := by decide +kernel
theorem dX1_set_18 : decode cX1_set 18 = .ok (.iload_n 2, 1) := by decide +kernel
theorem dX1_set_19 : decode cX1_set 19 = .ok (.iastore, 1) := by decide +kernel
theorem dX1_set_20 : decode cX1_set 20 = .ok (.return_, 1) := by decide +kernel
set_option maxRecDepth 20000 in
theorem ggX1_add_X1_at : GoodIn wsX1_add wsX1_at := goodIn_r _ [5, 6, 11] (by decide +kernel) (by decide +kernel)
set_option maxRecDepth 20000 in
theorem gX1_add_X1_at : GoodIn wsX1_add (wsV RX1 27 RX1 yX1_at wsX1_at) := goodIn_app (goodIn_of _ (by decide +kernel)) ggX1_add_X1_at
set_option maxRecDepth 20000 in
theorem ggX1_add_X1_set : GoodIn wsX1_add wsX1_set := goodIn_r _ [10, 6, 11] (by decide +kernel) (by decide +kernel)
set_option maxRecDepth 20000 in
theorem gX1_add_X1_set : GoodIn wsX1_add (wsV RX1 31 RX1 yX1_set wsX1_set) := goodIn_app (goodIn_of _ (by decide +kernel)) ggX1_add_X1_set
theorem dX1_add_0 : decode cX1_add 0 = .ok (.aload_n 0, 1) := by decide +kernel
theorem dX1_add_1 : decode cX1_add 1 = .ok (.iload_n 1, 1) := by decide +kernel
theorem dX1_add_2 : decode cX1_add 2 = .ok (.aload_n 0, 1) := by decide +kernel
theorem dX1_add_3 : decode cX1_add 3 = .ok (.iload_n 1, 1) := by decide +kernel
theorem dX1_add_4 : decode cX1_add 4 = .ok (.invokevirtual 27, 3) := by decide +kernel
theorem dX1_add_7 : decode cX1_add 7 = .ok (.iload_n 2, 1) := by decide +kernel
theorem dX1_add_8 : decode cX1_add 8 = .ok (.iadd, 1) := by decide +kernel
theorem dX1_add_9 : decode cX1_add 9 = .ok (.invokevirtual 31, 3) := by decide +kernel
theorem dX1_add_12 : decode cX1_add 12 = .ok (.return_, 1) := by decide +kernel
set_option maxRecDepth 20000 in
theorem ggX2_init_X1_init : GoodIn wsX2_init wsX1_init := goodIn_r _ [15, 16, 2, 3, 17, 18, 19, 20, 21, 22, 23, 24, 25, 26, 27] (by decide +kernel) (by decide +kernel)
set_option maxRecDepth 20000 in
theorem gX2_init_X1_init : GoodIn wsX2_init (wsX1_init) := ggX2_init_X1_init
theorem dX2_init_0 : decode cX2_init 0 = .ok (.aload_n 0, 1) := by decide +kernel
theorem dX2_init_1 : decode cX2_init 1 = .ok (.invokespecial 3, 3) := by decide +kernel
theorem dX2_init_4 : decode cX2_init 4 = .ok (.aload_n 0, 1) := by decide +kernel
theorem dX2_init_5 : decode cX2_init 5 = .ok (.new 9, 3) := by decide +kernel
theorem dX2_init_8 : decode cX2_init 8 = .ok (.dup, 1) := by decide +kernel
theorem dX2_init_9 : decode cX2_init 9 = .ok (.bipush 26, 2) := by decide +kernel
theorem dX2_init_11 : decode cX2_init 11 = .ok (.iconst 0, 1) := by decide +kernel
theorem dX2_init_12 : decode cX2_init 12 = .ok (.invokespecial 11, 3) := by decide +kernel
theorem dX2_init_15 : decode cX2_init 15 = .ok (.putfield 14, 3) := by decide +kernel
theorem dX2_init_18 : decode cX2_init 18 = .ok (.aload_n 0, 1) := by decide +kernel
theorem dX2_init_19 : decode cX2_init 19 = .ok (.new 9, 3) := by decide +kernel
theorem dX2_init_22 : decode cX2_init 22 = .ok (.dup, 1) := by decide +kernel
theorem dX2_init_23 : decode cX2_init 23 = .ok (.bipush 26, 2) := by decide +kernel
theorem dX2_init_25 : decode cX2_init 25 = .ok (.sipush 400, 3) := by decide +kernel
theorem dX2_init_28 : decode cX2_init 28 = .ok (.invokespecial 11, 3) := by decide +kernel
theorem dX2_init_31 : decode cX2_init 31 = .ok (.putfield 20, 3) := by decide +kernel
theorem dX2_init_34 : decode cX2_init 34 = .ok (.aload_n 0, 1) := by decide +kernel
theorem dX2_init_35 : decode cX2_init 35 = .ok (.new 9, 3) := by decide +kernel
theorem dX2_init_38 : decode cX2_init 38 = .ok (.dup, 1) := by decide +kernel
theorem dX2_init_39 : decode cX2_init 39 = .ok (.bipush 26, 2) := by decide +kernel
theorem dX2_init_41 : decode cX2_init 41 = .ok (.iconst 0, 1) := by decide +kernel
theorem dX2_init_42 : decode cX2_init 42 = .ok (.invokespecial 11, 3) := by decide +kernel
theorem dX2_init_45 : decode cX2_init 45 = .ok (.putfield 23, 3) := by decide +kernel
theorem dX2_init_48 : decode cX2_init 48 = .ok (.aload_n 0, 1) := by decide +kernel
theorem dX2_init_49 : decode cX2_init 49 = .ok (.new 9, 3) := by decide +kernel
theorem dX2_init_52 : decode cX2_init 52 = .ok (.dup, 1) := by decide +kernel
theorem dX2_init_53 : decode cX2_init 53 = .ok (.sipush 676, 3) := by decide +kernel
theorem dX2_init_56 : decode cX2_init 56 = .ok (.sipush 400, 3) := by decide +kernel
theorem dX2_init_59 : decode cX2_init 59 = .ok (.invokespecial 11, 3) := by decide +kernel
theorem dX2_init_62 : decode cX2_init 62 = .ok (.putfield 26, 3) := by decide +kernel
theorem dX2_init_65 : decode cX2_init 65 = .ok (.aload_n 0, 1) := by decide +kernel
theorem dX2_init_66 : decode cX2_init 66 = .ok (.sipush 300, 3) := by decide +kernel
theorem dX2_init_69 : decode cX2_init 69 = .ok (.putfield 29, 3) := by decide +kernel
theorem dX2_init_72 : decode cX2_init 72 = .ok (.aload_n 0, 1) := by decide +kernel
theorem dX2_init_73 : decode cX2_init 73 = .ok (.sipush 1000, 3) := by decide +kernel
theorem dX2_init_76 : decode cX2_init 76 = .ok (.putfield 33, 3) := by decide +kernel
theorem dX2_init_79 : decode cX2_init 79 = .ok (.return_, 1) := by decide +kernel
set_option maxRecDepth 20000 in
theorem ggX2_learn_X1_add : GoodIn wsX2_learn wsX1_add := goodIn_r _ [8, 9, 10, 11, 7, 12, 13, 14, 15, 16, 17, 30] (by decide +kernel) (by decide +kernel)
set_option maxRecDepth 20000 in
theorem gX2_learn_X1_add : GoodIn wsX2_learn (wsV RX2 36 RX1 yX1_add wsX1_add) := goodIn_app (goodIn_of _ (by decide +kernel)) ggX2_learn_X1_add
set_option maxRecDepth 20000 in
theorem ggX2_learn_X1_at : GoodIn wsX2_learn wsX1_at := goodIn_r _ [12, 13, 30] (by decide +kernel) (by decide +kernel)
set_option maxRecDepth 20000 in
theorem gX2_learn_X1_at : GoodIn wsX2_learn (wsV RX2 39 RX1 yX1_at wsX1_at) := goodIn_app (goodIn_of _ (by decide +kernel)) ggX2_learn_X1_at
set_option maxRecDepth 20000 in
theorem ggX2_learn_X2_aged : GoodIn wsX2_learn wsX2_aged := goodIn_r _ [22] (by decide +kernel) (by decide +kernel)
set_option maxRecDepth 20000 in
theorem gX2_learn_X2_aged : GoodIn wsX2_learn (va_wsS RX2 43 yX2_aged wsX2_aged) := goodIn_app (goodIn_of _ (by decide +kernel)) ggX2_learn_X2_aged
set_option maxRecDepth 20000 in
theorem ggX2_learn_X1_set : GoodIn wsX2_learn wsX1_set := goodIn_r _ [17, 13, 30] (by decide +kernel) (by decide +kernel)
set_option maxRecDepth 20000 in
theorem gX2_learn_X1_set : GoodIn wsX2_learn (wsV RX2 47 RX1 yX1_set wsX1_set) := goodIn_app (goodIn_of _ (by decide +kernel)) ggX2_learn_X1_set
theorem dX2_learn_0 : decode cX2_learn 0 = .ok (.aload_n 0, 1) := by decide +kernel
theorem dX2_learn_1 : decode cX2_learn 1 = .ok (.getfield 14, 3) := by decide +kernel
theorem dX2_learn_4 : decode cX2_learn 4 = .ok (.iload_n 1, 1) := by decide +kernel
theorem dX2_learn_5 : decode cX2_learn 5 = .ok (.iconst 1, 1) := by decide +kernel
theorem dX2_learn_6 : decode cX2_learn 6 = .ok (.invokevirtual 36, 3) := by decide +kernel
theorem dX2_learn_9 : decode cX2_learn 9 = .ok (.aload_n 0, 1) := by decide +kernel
theorem dX2_learn_10 : decode cX2_learn 10 = .ok (.getfield 20, 3) := by decide +kernel
theorem dX2_learn_13 : decode cX2_learn 13 = .ok (.iload_n 1, 1) := by decide +kernel
theorem dX2_learn_14 : decode cX2_learn 14 = .ok (.aload_n 0, 1) := by decide +kernel
theorem dX2_learn_15 : decode cX2_learn 15 = .ok (.getfield 20, 3) := by decide +kernel
theorem dX2_learn_18 : decode cX2_learn 18 = .ok (.iload_n 1, 1) := by decide +kernel
theorem dX2_learn_19 : decode cX2_learn 19 = .ok (.invokevirtual 39, 3) := by decide +kernel
theorem dX2_learn_22 : decode cX2_learn 22 = .ok (.iload_n 2, 1) := by decide +kernel
theorem dX2_learn_23 : decode cX2_learn 23 = .ok (.invokestatic 43, 3) := by decide +kernel
theorem dX2_learn_26 : decode cX2_learn 26 = .ok (.invokevirtual 47, 3) := by decide +kernel
theorem dX2_learn_29 : decode cX2_learn 29 = .ok (.aload_n 0, 1) := by decide +kernel
theorem dX2_learn_30 : decode cX2_learn 30 = .ok (.getfield 23, 3) := by decide +kernel
theorem dX2_learn_33 : decode cX2_learn 33 = .ok (.iload_n 1, 1) := by decide +kernel
theorem dX2_learn_34 : decode cX2_learn 34 = .ok (.bipush 7, 2) := by decide +kernel
theorem dX2_learn_36 : decode cX2_learn 36 = .ok (.aload_n 0, 1) := by decide +kernel
theorem dX2_learn_37 : decode cX2_learn 37 = .ok (.getfield 23, 3) := by decide +kernel
theorem dX2_learn_40 : decode cX2_learn 40 = .ok (.iload_n 1, 1) := by decide +kernel
theorem dX2_learn_41 : decode cX2_learn 41 = .ok (.invokevirtual 39, 3) := by decide +kernel
theorem dX2_learn_44 : decode cX2_learn 44 = .ok (.imul, 1) := by decide +kernel
theorem dX2_learn_45 : decode cX2_learn 45 = .ok (.iload_n 3, 1) := by decide +kernel
theorem dX2_learn_46 : decode cX2_learn 46 = .ok (.ifCond .eq 9, 3) := by decide +kernel
theorem dX2_learn_49 : decode cX2_learn 49 = .ok (.sipush 10000, 3) := by decide +kernel
theorem dX2_learn_52 : decode cX2_learn 52 = .ok (.goto 4, 3) := by decide +kernel
theorem dX2_learn_55 : decode cX2_learn 55 = .ok (.iconst 0, 1) := by decide +kernel
theorem dX2_learn_56 : decode cX2_learn 56 = .ok (.iadd, 1) := by decide +kernel
theorem dX2_learn_57 : decode cX2_learn 57 = .ok (.bipush 8, 2) := by decide +kernel
theorem dX2_learn_59 : decode cX2_learn 59 = .ok (.idiv, 1) := by decide +kernel
theorem dX2_learn_60 : decode cX2_learn 60 = .ok (.invokevirtual 47, 3) := by decide +kernel
theorem dX2_learn_63 : decode cX2_learn 63 = .ok (.return_, 1) := by decide +kernel
set_option maxRecDepth 20000 in
theorem ggX2_learnPair_X2_pairOf : GoodIn wsX2_learnPair wsX2_pairOf := goodIn_r _ [5] (by decide +kernel) (by decide +kernel)
set_option maxRecDepth 20000 in
theorem gX2_learnPair_X2_pairOf : GoodIn wsX2_learnPair (va_wsS RX2 50 yX2_pairOf wsX2_pairOf) := goodIn_app (goodIn_of _ (by decide +kernel)) ggX2_learnPair_X2_pairOf
set_option maxRecDepth 20000 in
theorem ggX2_learnPair_X2_timeOfPair : GoodIn wsX2_learnPair wsX2_timeOfPair := goodIn_r _ [9, 1, 2, 3, 4, 5, 10, 11, 12, 13, 14, 15, 23, 24, 25, 26, 27, 28, 29] (by decide +kernel) (by decide +kernel)
set_option maxRecDepth 20000 in
theorem gX2_learnPair_X2_timeOfPair : GoodIn wsX2_learnPair (wsV RX2 53 RX2 yX2_timeOfPair wsX2_timeOfPair) := goodIn_app (goodIn_of _ (by decide +kernel)) ggX2_learnPair_X2_timeOfPair
set_option maxRecDepth 20000 in
theorem ggX2_learnPair_X2_aged : GoodIn wsX2_learnPair wsX2_aged := goodIn_r _ [18] (by decide +kernel) (by decide +kernel)
set_option maxRecDepth 20000 in
theorem gX2_learnPair_X2_aged : GoodIn wsX2_learnPair (va_wsS RX2 43 yX2_aged wsX2_aged) := goodIn_app (goodIn_of _ (by decide +kernel)) ggX2_learnPair_X2_aged
set_option maxRecDepth 20000 in
theorem ggX2_learnPair_X1_set : GoodIn wsX2_learnPair wsX1_set := goodIn_r _ [22, 15, 29] (by decide +kernel) (by decide +kernel)
set_option maxRecDepth 20000 in
theorem gX2_learnPair_X1_set : GoodIn wsX2_learnPair (wsV RX2 47 RX1 yX1_set wsX1_set) := goodIn_app (goodIn_of _ (by decide +kernel)) ggX2_learnPair_X1_set
theorem dX2_learnPair_0 : decode cX2_learnPair 0 = .ok (.aload_n 0, 1) := by decide +kernel
theorem dX2_learnPair_1 : decode cX2_learnPair 1 = .ok (.getfield 26, 3) := by decide +kernel
theorem dX2_learnPair_4 : decode cX2_learnPair 4 = .ok (.iload_n 1, 1) := by decide +kernel
theorem dX2_learnPair_5 : decode cX2_learnPair 5 = .ok (.iload_n 2, 1) := by decide +kernel
theorem dX2_learnPair_6 : decode cX2_learnPair 6 = .ok (.invokestatic 50, 3) := by decide +kernel
theorem dX2_learnPair_9 : decode cX2_learnPair 9 = .ok (.aload_n 0, 1) := by decide +kernel
theorem dX2_learnPair_10 : decode cX2_learnPair 10 = .ok (.iload_n 1, 1) := by decide +kernel
theorem dX2_learnPair_11 : decode cX2_learnPair 11 = .ok (.iload_n 2, 1) := by decide +kernel
theorem dX2_learnPair_12 : decode cX2_learnPair 12 = .ok (.invokevirtual 53, 3) := by decide +kernel
theorem dX2_learnPair_15 : decode cX2_learnPair 15 = .ok (.iload_n 3, 1) := by decide +kernel
theorem dX2_learnPair_16 : decode cX2_learnPair 16 = .ok (.invokestatic 43, 3) := by decide +kernel
theorem dX2_learnPair_19 : decode cX2_learnPair 19 = .ok (.invokevirtual 47, 3) := by decide +kernel
theorem dX2_learnPair_22 : decode cX2_learnPair 22 = .ok (.return_, 1) := by decide +kernel
set_option maxRecDepth 20000 in
theorem ggX2_timeOfPair_X2_pairOf : GoodIn wsX2_timeOfPair wsX2_pairOf := goodIn_r _ [5] (by decide +kernel) (by decide +kernel)
set_option maxRecDepth 20000 in
theorem gX2_timeOfPair_X2_pairOf : GoodIn wsX2_timeOfPair (va_wsS RX2 50 yX2_pairOf wsX2_pairOf) := goodIn_app (goodIn_of _ (by decide +kernel)) ggX2_timeOfPair_X2_pairOf
set_option maxRecDepth 20000 in
theorem ggX2_timeOfPair_X1_at : GoodIn wsX2_timeOfPair wsX1_at := goodIn_r _ [10, 11, 18] (by decide +kernel) (by decide +kernel)
set_option maxRecDepth 20000 in
theorem gX2_timeOfPair_X1_at : GoodIn wsX2_timeOfPair (wsV RX2 39 RX1 yX1_at wsX1_at) := goodIn_app (goodIn_of _ (by decide +kernel)) ggX2_timeOfPair_X1_at
theorem dX2_timeOfPair_0 : decode cX2_timeOfPair 0 = .ok (.aload_n 0, 1) := by decide +kernel
theorem dX2_timeOfPair_1 : decode cX2_timeOfPair 1 = .ok (.getfield 26, 3) := by decide +kernel
theorem dX2_timeOfPair_4 : decode cX2_timeOfPair 4 = .ok (.iload_n 1, 1) := by decide +kernel
theorem dX2_timeOfPair_5 : decode cX2_timeOfPair 5 = .ok (.iload_n 2, 1) := by decide +kernel
theorem dX2_timeOfPair_6 : decode cX2_timeOfPair 6 = .ok (.invokestatic 50, 3) := by decide +kernel
theorem dX2_timeOfPair_9 : decode cX2_timeOfPair 9 = .ok (.invokevirtual 39, 3) := by decide +kernel
theorem dX2_timeOfPair_12 : decode cX2_timeOfPair 12 = .ok (.ireturn, 1) := by decide +kernel
set_option maxRecDepth 20000 in
theorem ggX2_fulfilsWish_X1_at : GoodIn wsX2_fulfilsWish wsX1_at := goodIn_r _ [10, 11, 18] (by decide +kernel) (by decide +kernel)
set_option maxRecDepth 20000 in
theorem gX2_fulfilsWish_X1_at : GoodIn wsX2_fulfilsWish (wsV RX2 39 RX1 yX1_at wsX1_at) := goodIn_app (goodIn_of _ (by decide +kernel)) ggX2_fulfilsWish_X1_at
theorem dX2_fulfilsWish_0 : decode cX2_fulfilsWish 0 = .ok (.aload_n 0, 1) := by decide +kernel
theorem dX2_fulfilsWish_1 : decode cX2_fulfilsWish 1 = .ok (.getfield 14, 3) := by decide +kernel
theorem dX2_fulfilsWish_4 : decode cX2_fulfilsWish 4 = .ok (.iload_n 1, 1) := by decide +kernel
theorem dX2_fulfilsWish_5 : decode cX2_fulfilsWish 5 = .ok (.invokevirtual 39, 3) := by decide +kernel
theorem dX2_fulfilsWish_8 : decode cX2_fulfilsWish 8 = .ok (.iconst 3, 1) := by decide +kernel
theorem dX2_fulfilsWish_9 : decode cX2_fulfilsWish 9 = .ok (.if_icmp .lt 37, 3) := by decide +kernel
theorem dX2_fulfilsWish_12 : decode cX2_fulfilsWish 12 = .ok (.aload_n 0, 1) := by decide +kernel
theorem dX2_fulfilsWish_13 : decode cX2_fulfilsWish 13 = .ok (.getfield 20, 3) := by decide +kernel
theorem dX2_fulfilsWish_16 : decode cX2_fulfilsWish 16 = .ok (.iload_n 1, 1) := by decide +kernel
theorem dX2_fulfilsWish_17 : decode cX2_fulfilsWish 17 = .ok (.invokevirtual 39, 3) := by decide +kernel
theorem dX2_fulfilsWish_20 : decode cX2_fulfilsWish 20 = .ok (.aload_n 0, 1) := by decide +kernel
theorem dX2_fulfilsWish_21 : decode cX2_fulfilsWish 21 = .ok (.getfield 29, 3) := by decide +kernel
theorem dX2_fulfilsWish_24 : decode cX2_fulfilsWish 24 = .ok (.if_icmp .gt 22, 3) := by decide +kernel
theorem dX2_fulfilsWish_27 : decode cX2_fulfilsWish 27 = .ok (.aload_n 0, 1) := by decide +kernel
theorem dX2_fulfilsWish_28 : decode cX2_fulfilsWish 28 = .ok (.getfield 23, 3) := by decide +kernel
theorem dX2_fulfilsWish_31 : decode cX2_fulfilsWish 31 = .ok (.iload_n 1, 1) := by decide +kernel
theorem dX2_fulfilsWish_32 : decode cX2_fulfilsWish 32 = .ok (.invokevirtual 39, 3) := by decide +kernel
theorem dX2_fulfilsWish_35 : decode cX2_fulfilsWish 35 = .ok (.aload_n 0, 1) := by decide +kernel
theorem dX2_fulfilsWish_36 : decode cX2_fulfilsWish 36 = .ok (.getfield 33, 3) := by decide +kernel
theorem dX2_fulfilsWish_39 : decode cX2_fulfilsWish 39 = .ok (.if_icmp .gt 7, 3) := by decide +kernel
theorem dX2_fulfilsWish_42 : decode cX2_fulfilsWish 42 = .ok (.iconst 1, 1) := by decide +kernel
theorem dX2_fulfilsWish_43 : decode cX2_fulfilsWish 43 = .ok (.goto 4, 3) := by decide +kernel
theorem dX2_fulfilsWish_46 : decode cX2_fulfilsWish 46 = .ok (.iconst 0, 1) := by decide +kernel
theorem dX2_fulfilsWish_47 : decode cX2_fulfilsWish 47 = .ok (.ireturn, 1) := by decide +kernel
set_option maxRecDepth 20000 in
theorem ggX2_mustGoOut_X1_at : GoodIn wsX2_mustGoOut wsX1_at := goodIn_r _ [7, 8, 15] (by decide +kernel) (by decide +kernel)
set_option maxRecDepth 20000 in
theorem gX2_mustGoOut_X1_at : GoodIn wsX2_mustGoOut (wsV RX2 39 RX1 yX1_at wsX1_at) := goodIn_app (goodIn_of _ (by decide +kernel)) ggX2_mustGoOut_X1_at
theorem dX2_mustGoOut_0 : decode cX2_mustGoOut 0 = .ok (.aload_n 0, 1) := by decide +kernel
theorem dX2_mustGoOut_1 : decode cX2_mustGoOut 1 = .ok (.getfield 14, 3) := by decide +kernel
theorem dX2_mustGoOut_4 : decode cX2_mustGoOut 4 = .ok (.iload_n 1, 1) := by decide +kernel
theorem dX2_mustGoOut_5 : decode cX2_mustGoOut 5 = .ok (.invokevirtual 39, 3) := by decide +kernel
theorem dX2_mustGoOut_8 : decode cX2_mustGoOut 8 = .ok (.iconst 3, 1) := by decide +kernel
theorem dX2_mustGoOut_9 : decode cX2_mustGoOut 9 = .ok (.if_icmp .lt 21, 3) := by decide +kernel
theorem dX2_mustGoOut_12 : decode cX2_mustGoOut 12 = .ok (.aload_n 0, 1) := by decide +kernel
theorem dX2_mustGoOut_13 : decode cX2_mustGoOut 13 = .ok (.getfield 23, 3) := by decide +kernel
theorem dX2_mustGoOut_16 : decode cX2_mustGoOut 16 = .ok (.iload_n 1, 1) := by decide +kernel
theorem dX2_mustGoOut_17 : decode cX2_mustGoOut 17 = .ok (.invokevirtual 39, 3) := by decide +kernel
theorem dX2_mustGoOut_20 : decode cX2_mustGoOut 20 = .ok (.sipush 5000, 3) := by decide +kernel
theorem dX2_mustGoOut_23 : decode cX2_mustGoOut 23 = .ok (.if_icmp .le 7, 3) := by decide +kernel
theorem dX2_mustGoOut_26 : decode cX2_mustGoOut 26 = .ok (.iconst 1, 1) := by decide +kernel
theorem dX2_mustGoOut_27 : decode cX2_mustGoOut 27 = .ok (.goto 4, 3) := by decide +kernel
theorem dX2_mustGoOut_30 : decode cX2_mustGoOut 30 = .ok (.iconst 0, 1) := by decide +kernel
theorem dX2_mustGoOut_31 : decode cX2_mustGoOut 31 = .ok (.ireturn, 1) := by decide +kernel
set_option maxRecDepth 20000 in
theorem ggX2_isWeaker_X1_at : GoodIn wsX2_isWeaker wsX1_at := goodIn_r _ [7, 8, 15] (by decide +kernel) (by decide +kernel)
set_option maxRecDepth 20000 in
theorem gX2_isWeaker_X1_at : GoodIn wsX2_isWeaker (wsV RX2 39 RX1 yX1_at wsX1_at) := goodIn_app (goodIn_of _ (by decide +kernel)) ggX2_isWeaker_X1_at
theorem dX2_isWeaker_0 : decode cX2_isWeaker 0 = .ok (.aload_n 0, 1) := by decide +kernel
theorem dX2_isWeaker_1 : decode cX2_isWeaker 1 = .ok (.getfield 23, 3) := by decide +kernel
theorem dX2_isWeaker_4 : decode cX2_isWeaker 4 = .ok (.iload_n 1, 1) := by decide +kernel
theorem dX2_isWeaker_5 : decode cX2_isWeaker 5 = .ok (.invokevirtual 39, 3) := by decide +kernel
theorem dX2_isWeaker_8 : decode cX2_isWeaker 8 = .ok (.aload_n 0, 1) := by decide +kernel
theorem dX2_isWeaker_9 : decode cX2_isWeaker 9 = .ok (.getfield 23, 3) := by decide +kernel
theorem dX2_isWeaker_12 : decode cX2_isWeaker 12 = .ok (.iload_n 2, 1) := by decide +kernel
theorem dX2_isWeaker_13 : decode cX2_isWeaker 13 = .ok (.invokevirtual 39, 3) := by decide +kernel
theorem dX2_isWeaker_16 : decode cX2_isWeaker 16 = .ok (.if_icmp .eq 28, 3) := by decide +kernel
theorem dX2_isWeaker_19 : decode cX2_isWeaker 19 = .ok (.aload_n 0, 1) := by decide +kernel
theorem dX2_isWeaker_20 : decode cX2_isWeaker 20 = .ok (.getfield 23, 3) := by decide +kernel
theorem dX2_isWeaker_23 : decode cX2_isWeaker 23 = .ok (.iload_n 1, 1) := by decide +kernel
theorem dX2_isWeaker_24 : decode cX2_isWeaker 24 = .ok (.invokevirtual 39, 3) := by decide +kernel
theorem dX2_isWeaker_27 : decode cX2_isWeaker 27 = .ok (.aload_n 0, 1) := by decide +kernel
theorem dX2_isWeaker_28 : decode cX2_isWeaker 28 = .ok (.getfield 23, 3) := by decide +kernel
theorem dX2_isWeaker_31 : decode cX2_isWeaker 31 = .ok (.iload_n 2, 1) := by decide +kernel
theorem dX2_isWeaker_32 : decode cX2_isWeaker 32 = .ok (.invokevirtual 39, 3) := by decide +kernel
theorem dX2_isWeaker_35 : decode cX2_isWeaker 35 = .ok (.if_icmp .le 7, 3) := by decide +kernel
theorem dX2_isWeaker_38 : decode cX2_isWeaker 38 = .ok (.iconst 1, 1) := by decide +kernel
theorem dX2_isWeaker_39 : decode cX2_isWeaker 39 = .ok (.goto 4, 3) := by decide +kernel
theorem dX2_isWeaker_42 : decode cX2_isWeaker 42 = .ok (.iconst 0, 1) := by decide +kernel
theorem dX2_isWeaker_43 : decode cX2_isWeaker 43 = .ok (.ireturn, 1) := by decide +kernel
theorem dX2_isWeaker_44 : decode cX2_isWeaker 44 = .ok (.aload_n 0, 1) := by decide +kernel
theorem dX2_isWeaker_45 : decode cX2_isWeaker 45 = .ok (.getfield 20, 3) := by decide +kernel
theorem dX2_isWeaker_48 : decode cX2_isWeaker 48 = .ok (.iload_n 1, 1) := by decide +kernel
theorem dX2_isWeaker_49 : decode cX2_isWeaker 49 = .ok (.invokevirtual 39, 3) := by decide +kernel
theorem dX2_isWeaker_52 : decode cX2_isWeaker 52 = .ok (.aload_n 0, 1) := by decide +kernel
theorem dX2_isWeaker_53 : decode cX2_isWeaker 53 = .ok (.getfield 20, 3) := by decide +kernel
theorem dX2_isWeaker_56 : decode cX2_isWeaker 56 = .ok (.iload_n 2, 1) := by decide +kernel
theorem dX2_isWeaker_57 : decode cX2_isWeaker 57 = .ok (.invokevirtual 39, 3) := by decide +kernel
theorem dX2_isWeaker_60 : decode cX2_isWeaker 60 = .ok (.if_icmp .le 7, 3) := by decide +kernel
theorem dX2_isWeaker_63 : decode cX2_isWeaker 63 = .ok (.iconst 1, 1) := by decide +kernel
theorem dX2_isWeaker_64 : decode cX2_isWeaker 64 = .ok (.goto 4, 3) := by decide +kernel
theorem dX2_isWeaker_67 : decode cX2_isWeaker 67 = .ok (.iconst 0, 1) := by decide +kernel
theorem dX2_isWeaker_68 : decode cX2_isWeaker 68 = .ok (.ireturn, 1) := by decide +kernel
set_option maxRecDepth 20000 in
theorem ggX2_forget_X1_set : GoodIn wsX2_forget wsX1_set := goodIn_r _ [8, 9, 16] (by decide +kernel) (by decide +kernel)
set_option maxRecDepth 20000 in
theorem gX2_forget_X1_set : GoodIn wsX2_forget (wsV RX2 47 RX1 yX1_set wsX1_set) := goodIn_app (goodIn_of _ (by decide +kernel)) ggX2_forget_X1_set
theorem dX2_forget_0 : decode cX2_forget 0 = .ok (.aload_n 0, 1) := by decide +kernel
theorem dX2_forget_1 : decode cX2_forget 1 = .ok (.getfield 14, 3) := by decide +kernel
theorem dX2_forget_4 : decode cX2_forget 4 = .ok (.iload_n 1, 1) := by decide +kernel
theorem dX2_forget_5 : decode cX2_forget 5 = .ok (.iconst 0, 1) := by decide +kernel
theorem dX2_forget_6 : decode cX2_forget 6 = .ok (.invokevirtual 47, 3) := by decide +kernel
theorem dX2_forget_9 : decode cX2_forget 9 = .ok (.aload_n 0, 1) := by decide +kernel
theorem dX2_forget_10 : decode cX2_forget 10 = .ok (.getfield 20, 3) := by decide +kernel
theorem dX2_forget_13 : decode cX2_forget 13 = .ok (.iload_n 1, 1) := by decide +kernel
theorem dX2_forget_14 : decode cX2_forget 14 = .ok (.sipush 400, 3) := by decide +kernel
theorem dX2_forget_17 : decode cX2_forget 17 = .ok (.invokevirtual 47, 3) := by decide +kernel
theorem dX2_forget_20 : decode cX2_forget 20 = .ok (.aload_n 0, 1) := by decide +kernel
theorem dX2_forget_21 : decode cX2_forget 21 = .ok (.getfield 23, 3) := by decide +kernel
theorem dX2_forget_24 : decode cX2_forget 24 = .ok (.iload_n 1, 1) := by decide +kernel
theorem dX2_forget_25 : decode cX2_forget 25 = .ok (.iconst 0, 1) := by decide +kernel
theorem dX2_forget_26 : decode cX2_forget 26 = .ok (.invokevirtual 47, 3) := by decide +kernel
theorem dX2_forget_29 : decode cX2_forget 29 = .ok (.return_, 1) := by decide +kernel
set_option maxRecDepth 20000 in
theorem ggX2_halveCounts_X1_at : GoodIn wsX2_halveCounts wsX1_at := goodIn_r _ [6, 7, 18] (by decide +kernel) (by decide +kernel)
set_option maxRecDepth 20000 in
theorem gX2_halveCounts_X1_at : GoodIn wsX2_halveCounts (wsV RX2 39 RX1 yX1_at wsX1_at) := goodIn_app (goodIn_of _ (by decide +kernel)) ggX2_halveCounts_X1_at
set_option maxRecDepth 20000 in
theorem ggX2_halveCounts_X1_set : GoodIn wsX2_halveCounts wsX1_set := goodIn_r _ [11, 7, 18] (by decide +kernel) (by decide +kernel)
set_option maxRecDepth 20000 in
theorem gX2_halveCounts_X1_set : GoodIn wsX2_halveCounts (wsV RX2 47 RX1 yX1_set wsX1_set) := goodIn_app (goodIn_of _ (by decide +kernel)) ggX2_halveCounts_X1_set
theorem dX2_halveCounts_0 : decode cX2_halveCounts 0 = .ok (.iconst 0, 1) := by decide +kernel
theorem dX2_halveCounts_1 : decode cX2_halveCounts 1 = .ok (.istore_n 1, 1) := by decide +kernel
theorem dX2_halveCounts_2 : decode cX2_halveCounts 2 = .ok (.iload_n 1, 1) := by decide +kernel
theorem dX2_halveCounts_3 : decode cX2_halveCounts 3 = .ok (.bipush 26, 2) := by decide +kernel
theorem dX2_halveCounts_5 : decode cX2_halveCounts 5 = .ok (.if_icmp .ge 27, 3) := by decide +kernel
theorem dX2_halveCounts_8 : decode cX2_halveCounts 8 = .ok (.aload_n 0, 1) := by decide +kernel
theorem dX2_halveCounts_9 : decode cX2_halveCounts 9 = .ok (.getfield 14, 3) := by decide +kernel
theorem dX2_halveCounts_12 : decode cX2_halveCounts 12 = .ok (.iload_n 1, 1) := by decide +kernel
theorem dX2_halveCounts_13 : decode cX2_halveCounts 13 = .ok (.aload_n 0, 1) := by decide +kernel
theorem dX2_halveCounts_14 : decode cX2_halveCounts 14 = .ok (.getfield 14, 3) := by decide +kernel
theorem dX2_halveCounts_17 : decode cX2_halveCounts 17 = .ok (.iload_n 1, 1) := by decide +kernel
theorem dX2_halveCounts_18 : decode cX2_halveCounts 18 = .ok (.invokevirtual 39, 3) := by decide +kernel
theorem dX2_halveCounts_21 : decode cX2_halveCounts 21 = .ok (.iconst 2, 1) := by decide +kernel
theorem dX2_halveCounts_22 : decode cX2_halveCounts 22 = .ok (.idiv, 1) := by decide +kernel
theorem dX2_halveCounts_23 : decode cX2_halveCounts 23 = .ok (.invokevirtual 47, 3) := by decide +kernel
theorem dX2_halveCounts_26 : decode cX2_halveCounts 26 = .ok (.iinc 1 1, 3) := by decide +kernel
theorem dX2_halveCounts_29 : decode cX2_halveCounts 29 = .ok (.goto (-27), 3) := by decide +kernel
theorem dX2_halveCounts_32 : decode cX2_halveCounts 32 = .ok (.return_, 1) := by decide +kernel
theorem dX2_pairOf_0 : decode cX2_pairOf 0 = .ok (.iload_n 0, 1) := by decide +kernel
theorem dX2_pairOf_1 : decode cX2_pairOf 1 = .ok (.bipush 26, 2) := by decide +kernel
theorem dX2_pairOf_3 : decode cX2_pairOf 3 = .ok (.imul, 1) := by decide +kernel
theorem dX2_pairOf_4 : decode cX2_pairOf 4 = .ok (.iload_n 1, 1) := by decide +kernel
theorem dX2_pairOf_5 : decode cX2_pairOf 5 = .ok (.iadd, 1) := by decide +kernel
theorem dX2_pairOf_6 : decode cX2_pairOf 6 = .ok (.ireturn, 1) := by decide +kernel
theorem dX2_aged_0 : decode cX2_aged 0 = .ok (.iconst 3, 1) := by decide +kernel
theorem dX2_aged_1 : decode cX2_aged 1 = .ok (.iload_n 0, 1) := by decide +kernel
theorem dX2_aged_2 : decode cX2_aged 2 = .ok (.imul, 1) := by decide +kernel
theorem dX2_aged_3 : decode cX2_aged 3 = .ok (.iload_n 1, 1) := by decide +kernel
theorem dX2_aged_4 : decode cX2_aged 4 = .ok (.iadd, 1) := by decide +kernel
theorem dX2_aged_5 : decode cX2_aged 5 = .ok (.iconst 4, 1) := by decide +kernel
theorem dX2_aged_6 : decode cX2_aged 6 = .ok (.idiv, 1) := by decide +kernel
theorem dX2_aged_7 : decode cX2_aged 7 = .ok (.ireturn, 1) := by decide +kernel
theorem dJ9_abs_0f7a4_0 : decode cJ9_abs_0f7a4 0 = .ok (.iload_n 0, 1) := by decide +kernel
theorem dJ9_abs_0f7a4_1 : decode cJ9_abs_0f7a4 1 = .ok (.ifCond .ge 8, 3) := by decide +kernel
theorem dJ9_abs_0f7a4_4 : decode cJ9_abs_0f7a4 4 = .ok (.iload_n 0, 1) := by decide +kernel
theorem dJ9_abs_0f7a4_5 : decode cJ9_abs_0f7a4 5 = .ok (.ineg, 1) := by decide +kernel
theorem dJ9_abs_0f7a4_6 : decode cJ9_abs_0f7a4 6 = .ok (.goto 4, 3) := by decide +kernel
theorem dJ9_abs_0f7a4_9 : decode cJ9_abs_0f7a4 9 = .ok (.iload_n 0, 1) := by decide +kernel
theorem dJ9_abs_0f7a4_10 : decode cJ9_abs_0f7a4 10 = .ok (.ireturn, 1) := by decide +kernel
theorem dJ9_max_7cf53_0 : decode cJ9_max_7cf53 0 = .ok (.iload_n 0, 1) := by decide +kernel
theorem dJ9_max_7cf53_1 : decode cJ9_max_7cf53 1 = .ok (.iload_n 1, 1) := by decide +kernel
theorem dJ9_max_7cf53_2 : decode cJ9_max_7cf53 2 = .ok (.if_icmp .lt 7, 3) := by decide +kernel
theorem dJ9_max_7cf53_5 : decode cJ9_max_7cf53 5 = .ok (.iload_n 0, 1) := by decide +kernel
theorem dJ9_max_7cf53_6 : decode cJ9_max_7cf53 6 = .ok (.goto 4, 3) := by decide +kernel
theorem dJ9_max_7cf53_9 : decode cJ9_max_7cf53 9 = .ok (.iload_n 1, 1) := by decide +kernel
theorem dJ9_max_7cf53_10 : decode cJ9_max_7cf53 10 = .ok (.ireturn, 1) := by decide +kernel
theorem dJ7_fill_53178_0 : decode cJ7_fill_53178 0 = .ok (.iconst 0, 1) := by decide +kernel
theorem dJ7_fill_53178_1 : decode cJ7_fill_53178 1 = .ok (.istore_n 2, 1) := by decide +kernel
theorem dJ7_fill_53178_2 : decode cJ7_fill_53178 2 = .ok (.aload_n 0, 1) := by decide +kernel
theorem dJ7_fill_53178_3 : decode cJ7_fill_53178 3 = .ok (.arraylength, 1) := by decide +kernel
theorem dJ7_fill_53178_4 : decode cJ7_fill_53178 4 = .ok (.istore_n 3, 1) := by decide +kernel
theorem dJ7_fill_53178_5 : decode cJ7_fill_53178 5 = .ok (.iload_n 2, 1) := by decide +kernel
theorem dJ7_fill_53178_6 : decode cJ7_fill_53178 6 = .ok (.iload_n 3, 1) := by decide +kernel
theorem dJ7_fill_53178_7 : decode cJ7_fill_53178 7 = .ok (.if_icmp .ge 13, 3) := by decide +kernel
theorem dJ7_fill_53178_10 : decode cJ7_fill_53178 10 = .ok (.aload_n 0, 1) := by decide +kernel
theorem dJ7_fill_53178_11 : decode cJ7_fill_53178 11 = .ok (.iload_n 2, 1) := by decide +kernel
theorem dJ7_fill_53178_12 : decode cJ7_fill_53178 12 = .ok (.iload_n 1, 1) := by decide +kernel
theorem dJ7_fill_53178_13 : decode cJ7_fill_53178 13 = .ok (.iastore, 1) := by decide +kernel
theorem dJ7_fill_53178_14 : decode cJ7_fill_53178 14 = .ok (.iinc 2 1, 3) := by decide +kernel
theorem dJ7_fill_53178_17 : decode cJ7_fill_53178 17 = .ok (.goto (-12), 3) := by decide +kernel
theorem dJ7_fill_53178_20 : decode cJ7_fill_53178 20 = .ok (.return_, 1) := by decide +kernel
end
section
set_option maxRecDepth 20000 in
theorem ggX3_init_X1_init : GoodIn wsX3_init wsX1_init := goodIn_r _ [15, 16, 2, 3, 17, 18, 19, 20, 21, 22, 23, 24, 25, 26, 27] (by decide +kernel) (by decide +kernel)
set_option maxRecDepth 20000 in
theorem gX3_init_X1_init : GoodIn wsX3_init (wsX1_init) := ggX3_init_X1_init
theorem dX3_init_0 : decode cX3_init 0 = .ok (.aload_n 0, 1) := by decide +kernel
theorem dX3_init_1 : decode cX3_init 1 = .ok (.invokespecial 3, 3) := by decide +kernel
theorem dX3_init_4 : decode cX3_init 4 = .ok (.aload_n 0, 1) := by decide +kernel
theorem dX3_init_5 : decode cX3_init 5 = .ok (.new 9, 3) := by decide +kernel
theorem dX3_init_8 : decode cX3_init 8 = .ok (.dup, 1) := by decide +kernel
theorem dX3_init_9 : decode cX3_init 9 = .ok (.bipush 40, 2) := by decide +kernel
theorem dX3_init_11 : decode cX3_init 11 = .ok (.iconst (-1), 1) := by decide +kernel
theorem dX3_init_12 : decode cX3_init 12 = .ok (.invokespecial 11, 3) := by decide +kernel
theorem dX3_init_15 : decode cX3_init 15 = .ok (.putfield 14, 3) := by decide +kernel
theorem dX3_init_18 : decode cX3_init 18 = .ok (.aload_n 0, 1) := by decide +kernel
theorem dX3_init_19 : decode cX3_init 19 = .ok (.new 9, 3) := by decide +kernel
theorem dX3_init_22 : decode cX3_init 22 = .ok (.dup, 1) := by decide +kernel
theorem dX3_init_23 : decode cX3_init 23 = .ok (.bipush 40, 2) := by decide +kernel
theorem dX3_init_25 : decode cX3_init 25 = .ok (.iconst (-1), 1) := by decide +kernel
theorem dX3_init_26 : decode cX3_init 26 = .ok (.invokespecial 11, 3) := by decide +kernel
theorem dX3_init_29 : decode cX3_init 29 = .ok (.putfield 20, 3) := by decide +kernel
theorem dX3_init_32 : decode cX3_init 32 = .ok (.aload_n 0, 1) := by decide +kernel
theorem dX3_init_33 : decode cX3_init 33 = .ok (.iconst 0, 1) := by decide +kernel
theorem dX3_init_34 : decode cX3_init 34 = .ok (.putfield 23, 3) := by decide +kernel
theorem dX3_init_37 : decode cX3_init 37 = .ok (.aload_n 0, 1) := by decide +kernel
theorem dX3_init_38 : decode cX3_init 38 = .ok (.iconst 0, 1) := by decide +kernel
theorem dX3_init_39 : decode cX3_init 39 = .ok (.putfield 27, 3) := by decide +kernel
theorem dX3_init_42 : decode cX3_init 42 = .ok (.aload_n 0, 1) := by decide +kernel
theorem dX3_init_43 : decode cX3_init 43 = .ok (.iconst 0, 1) := by decide +kernel
theorem dX3_init_44 : decode cX3_init 44 = .ok (.putfield 30, 3) := by decide +kernel
theorem dX3_init_47 : decode cX3_init 47 = .ok (.aload_n 0, 1) := by decide +kernel
theorem dX3_init_48 : decode cX3_init 48 = .ok (.iconst 0, 1) := by decide +kernel
theorem dX3_init_49 : decode cX3_init 49 = .ok (.putfield 33, 3) := by decide +kernel
theorem dX3_init_52 : decode cX3_init 52 = .ok (.return_, 1) := by decide +kernel
theorem dX3_isFull_0 : decode cX3_isFull 0 = .ok (.aload_n 0, 1) := by decide +kernel
theorem dX3_isFull_1 : decode cX3_isFull 1 = .ok (.getfield 23, 3) := by decide +kernel
theorem dX3_isFull_4 : decode cX3_isFull 4 = .ok (.bipush 40, 2) := by decide +kernel
theorem dX3_isFull_6 : decode cX3_isFull 6 = .ok (.if_icmp .lt 7, 3) := by decide +kernel
theorem dX3_isFull_9 : decode cX3_isFull 9 = .ok (.iconst 1, 1) := by decide +kernel
theorem dX3_isFull_10 : decode cX3_isFull 10 = .ok (.goto 4, 3) := by decide +kernel
theorem dX3_isFull_13 : decode cX3_isFull 13 = .ok (.iconst 0, 1) := by decide +kernel
theorem dX3_isFull_14 : decode cX3_isFull 14 = .ok (.ireturn, 1) := by decide +kernel
set_option maxRecDepth 20000 in
theorem ggX3_append_X1_set : GoodIn wsX3_append wsX1_set := goodIn_r _ [7, 8, 15] (by decide +kernel) (by decide +kernel)
set_option maxRecDepth 20000 in
theorem gX3_append_X1_set : GoodIn wsX3_append (wsV RX3 36 RX1 yX1_set wsX1_set) := goodIn_app (goodIn_of _ (by decide +kernel)) ggX3_append_X1_set
theorem dX3_append_0 : decode cX3_append 0 = .ok (.aload_n 0, 1) := by decide +kernel
theorem dX3_append_1 : decode cX3_append 1 = .ok (.getfield 14, 3) := by decide +kernel
theorem dX3_append_4 : decode cX3_append 4 = .ok (.aload_n 0, 1) := by decide +kernel
theorem dX3_append_5 : decode cX3_append 5 = .ok (.getfield 23, 3) := by decide +kernel
theorem dX3_append_8 : decode cX3_append 8 = .ok (.iload_n 1, 1) := by decide +kernel
theorem dX3_append_9 : decode cX3_append 9 = .ok (.invokevirtual 36, 3) := by decide +kernel
theorem dX3_append_12 : decode cX3_append 12 = .ok (.aload_n 0, 1) := by decide +kernel
theorem dX3_append_13 : decode cX3_append 13 = .ok (.dup, 1) := by decide +kernel
theorem dX3_append_14 : decode cX3_append 14 = .ok (.getfield 23, 3) := by decide +kernel
theorem dX3_append_17 : decode cX3_append 17 = .ok (.iconst 1, 1) := by decide +kernel
theorem dX3_append_18 : decode cX3_append 18 = .ok (.iadd, 1) := by decide +kernel
theorem dX3_append_19 : decode cX3_append 19 = .ok (.putfield 23, 3) := by decide +kernel
theorem dX3_append_22 : decode cX3_append 22 = .ok (.return_, 1) := by decide +kernel
set_option maxRecDepth 20000 in
theorem ggX3_letterAt_X1_at : GoodIn wsX3_letterAt wsX1_at := goodIn_r _ [7, 8, 15] (by decide +kernel) (by decide +kernel)
set_option maxRecDepth 20000 in
theorem gX3_letterAt_X1_at : GoodIn wsX3_letterAt (wsV RX3 39 RX1 yX1_at wsX1_at) := goodIn_app (goodIn_of _ (by decide +kernel)) ggX3_letterAt_X1_at
theorem dX3_letterAt_0 : decode cX3_letterAt 0 = .ok (.iload_n 1, 1) := by decide +kernel
theorem dX3_letterAt_1 : decode cX3_letterAt 1 = .ok (.aload_n 0, 1) := by decide +kernel
theorem dX3_letterAt_2 : decode cX3_letterAt 2 = .ok (.getfield 23, 3) := by decide +kernel
theorem dX3_letterAt_5 : decode cX3_letterAt 5 = .ok (.if_icmp .ge 14, 3) := by decide +kernel
theorem dX3_letterAt_8 : decode cX3_letterAt 8 = .ok (.aload_n 0, 1) := by decide +kernel
theorem dX3_letterAt_9 : decode cX3_letterAt 9 = .ok (.getfield 14, 3) := by decide +kernel
theorem dX3_letterAt_12 : decode cX3_letterAt 12 = .ok (.iload_n 1, 1) := by decide +kernel
theorem dX3_letterAt_13 : decode cX3_letterAt 13 = .ok (.invokevirtual 39, 3) := by decide +kernel
theorem dX3_letterAt_16 : decode cX3_letterAt 16 = .ok (.goto 4, 3) := by decide +kernel
theorem dX3_letterAt_19 : decode cX3_letterAt 19 = .ok (.iconst (-1), 1) := by decide +kernel
theorem dX3_letterAt_20 : decode cX3_letterAt 20 = .ok (.ireturn, 1) := by decide +kernel
set_option maxRecDepth 20000 in
theorem ggX3_typedBefore_X1_at : GoodIn wsX3_typedBefore wsX1_at := goodIn_r _ [7, 8, 15] (by decide +kernel) (by decide +kernel)
set_option maxRecDepth 20000 in
theorem gX3_typedBefore_X1_at : GoodIn wsX3_typedBefore (wsV RX3 39 RX1 yX1_at wsX1_at) := goodIn_app (goodIn_of _ (by decide +kernel)) ggX3_typedBefore_X1_at
theorem dX3_typedBefore_0 : decode cX3_typedBefore 0 = .ok (.aload_n 0, 1) := by decide +kernel
theorem dX3_typedBefore_1 : decode cX3_typedBefore 1 = .ok (.getfield 20, 3) := by decide +kernel
theorem dX3_typedBefore_4 : decode cX3_typedBefore 4 = .ok (.aload_n 0, 1) := by decide +kernel
theorem dX3_typedBefore_5 : decode cX3_typedBefore 5 = .ok (.getfield 27, 3) := by decide +kernel
theorem dX3_typedBefore_8 : decode cX3_typedBefore 8 = .ok (.iconst 1, 1) := by decide +kernel
theorem dX3_typedBefore_9 : decode cX3_typedBefore 9 = .ok (.isub, 1) := by decide +kernel
theorem dX3_typedBefore_10 : decode cX3_typedBefore 10 = .ok (.invokevirtual 39, 3) := by decide +kernel
theorem dX3_typedBefore_13 : decode cX3_typedBefore 13 = .ok (.ireturn, 1) := by decide +kernel
set_option maxRecDepth 20000 in
theorem ggX3_type_X1_set : GoodIn wsX3_type wsX1_set := goodIn_r _ [8, 9, 16] (by decide +kernel) (by decide +kernel)
set_option maxRecDepth 20000 in
theorem gX3_type_X1_set : GoodIn wsX3_type (wsV RX3 36 RX1 yX1_set wsX1_set) := goodIn_app (goodIn_of _ (by decide +kernel)) ggX3_type_X1_set
theorem dX3_type_0 : decode cX3_type 0 = .ok (.aload_n 0, 1) := by decide +kernel
theorem dX3_type_1 : decode cX3_type 1 = .ok (.getfield 20, 3) := by decide +kernel
theorem dX3_type_4 : decode cX3_type 4 = .ok (.aload_n 0, 1) := by decide +kernel
theorem dX3_type_5 : decode cX3_type 5 = .ok (.getfield 27, 3) := by decide +kernel
theorem dX3_type_8 : decode cX3_type 8 = .ok (.iload_n 1, 1) := by decide +kernel
theorem dX3_type_9 : decode cX3_type 9 = .ok (.invokevirtual 36, 3) := by decide +kernel
theorem dX3_type_12 : decode cX3_type 12 = .ok (.aload_n 0, 1) := by decide +kernel
theorem dX3_type_13 : decode cX3_type 13 = .ok (.dup, 1) := by decide +kernel
theorem dX3_type_14 : decode cX3_type 14 = .ok (.getfield 27, 3) := by decide +kernel
theorem dX3_type_17 : decode cX3_type 17 = .ok (.iconst 1, 1) := by decide +kernel
theorem dX3_type_18 : decode cX3_type 18 = .ok (.iadd, 1) := by decide +kernel
theorem dX3_type_19 : decode cX3_type 19 = .ok (.putfield 27, 3) := by decide +kernel
theorem dX3_type_22 : decode cX3_type 22 = .ok (.aload_n 0, 1) := by decide +kernel
theorem dX3_type_23 : decode cX3_type 23 = .ok (.dup, 1) := by decide +kernel
theorem dX3_type_24 : decode cX3_type 24 = .ok (.getfield 33, 3) := by decide +kernel
theorem dX3_type_27 : decode cX3_type 27 = .ok (.iload_n 2, 1) := by decide +kernel
theorem dX3_type_28 : decode cX3_type 28 = .ok (.iadd, 1) := by decide +kernel
theorem dX3_type_29 : decode cX3_type 29 = .ok (.putfield 33, 3) := by decide +kernel
theorem dX3_type_32 : decode cX3_type 32 = .ok (.return_, 1) := by decide +kernel
theorem dX3_goBack_0 : decode cX3_goBack 0 = .ok (.aload_n 0, 1) := by decide +kernel
theorem dX3_goBack_1 : decode cX3_goBack 1 = .ok (.dup, 1) := by decide +kernel
theorem dX3_goBack_2 : decode cX3_goBack 2 = .ok (.getfield 27, 3) := by decide +kernel
theorem dX3_goBack_5 : decode cX3_goBack 5 = .ok (.iconst 1, 1) := by decide +kernel
theorem dX3_goBack_6 : decode cX3_goBack 6 = .ok (.isub, 1) := by decide +kernel
theorem dX3_goBack_7 : decode cX3_goBack 7 = .ok (.putfield 27, 3) := by decide +kernel
theorem dX3_goBack_10 : decode cX3_goBack 10 = .ok (.aload_n 0, 1) := by decide +kernel
theorem dX3_goBack_11 : decode cX3_goBack 11 = .ok (.dup, 1) := by decide +kernel
theorem dX3_goBack_12 : decode cX3_goBack 12 = .ok (.getfield 30, 3) := by decide +kernel
theorem dX3_goBack_15 : decode cX3_goBack 15 = .ok (.iconst 1, 1) := by decide +kernel
theorem dX3_goBack_16 : decode cX3_goBack 16 = .ok (.iadd, 1) := by decide +kernel
theorem dX3_goBack_17 : decode cX3_goBack 17 = .ok (.putfield 30, 3) := by decide +kernel
theorem dX3_goBack_20 : decode cX3_goBack 20 = .ok (.aload_n 0, 1) := by decide +kernel
theorem dX3_goBack_21 : decode cX3_goBack 21 = .ok (.dup, 1) := by decide +kernel
theorem dX3_goBack_22 : decode cX3_goBack 22 = .ok (.getfield 33, 3) := by decide +kernel
theorem dX3_goBack_25 : decode cX3_goBack 25 = .ok (.iload_n 1, 1) := by decide +kernel
theorem dX3_goBack_26 : decode cX3_goBack 26 = .ok (.iadd, 1) := by decide +kernel
theorem dX3_goBack_27 : decode cX3_goBack 27 = .ok (.putfield 33, 3) := by decide +kernel
theorem dX3_goBack_30 : decode cX3_goBack 30 = .ok (.return_, 1) := by decide +kernel
set_option maxRecDepth 20000 in
theorem ggX3_speedSoFar_X3_rightStrokes : GoodIn wsX3_speedSoFar wsX3_rightStrokes := goodIn_r _ [7, 8, 9, 10, 11, 12, 13, 14, 15, 16, 17, 18, 19, 20, 21, 22, 23] (by decide +kernel) (by decide +kernel)
set_option maxRecDepth 20000 in
theorem gX3_speedSoFar_X3_rightStrokes : GoodIn wsX3_speedSoFar (wsV RX3 43 RX3 yX3_rightStrokes wsX3_rightStrokes) := goodIn_app (goodIn_of _ (by decide +kernel)) ggX3_speedSoFar_X3_rightStrokes
theorem dX3_speedSoFar_0 : decode cX3_speedSoFar 0 = .ok (.aload_n 0, 1) := by decide +kernel
theorem dX3_speedSoFar_1 : decode cX3_speedSoFar 1 = .ok (.getfield 33, 3) := by decide +kernel
theorem dX3_speedSoFar_4 : decode cX3_speedSoFar 4 = .ok (.ifCond .gt 7, 3) := by decide +kernel
theorem dX3_speedSoFar_7 : decode cX3_speedSoFar 7 = .ok (.iconst 0, 1) := by decide +kernel
theorem dX3_speedSoFar_8 : decode cX3_speedSoFar 8 = .ok (.goto 15, 3) := by decide +kernel
theorem dX3_speedSoFar_11 : decode cX3_speedSoFar 11 = .ok (.aload_n 0, 1) := by decide +kernel
theorem dX3_speedSoFar_12 : decode cX3_speedSoFar 12 = .ok (.invokevirtual 43, 3) := by decide +kernel
theorem dX3_speedSoFar_15 : decode cX3_speedSoFar 15 = .ok (.ldc 47, 2) := by decide +kernel
theorem dX3_speedSoFar_17 : decode cX3_speedSoFar 17 = .ok (.imul, 1) := by decide +kernel
theorem dX3_speedSoFar_18 : decode cX3_speedSoFar 18 = .ok (.aload_n 0, 1) := by decide +kernel
theorem dX3_speedSoFar_19 : decode cX3_speedSoFar 19 = .ok (.getfield 33, 3) := by decide +kernel
theorem dX3_speedSoFar_22 : decode cX3_speedSoFar 22 = .ok (.idiv, 1) := by decide +kernel
theorem dX3_speedSoFar_23 : decode cX3_speedSoFar 23 = .ok (.ireturn, 1) := by decide +kernel
theorem dX3_beginAnew_0 : decode cX3_beginAnew 0 = .ok (.aload_n 0, 1) := by decide +kernel
theorem dX3_beginAnew_1 : decode cX3_beginAnew 1 = .ok (.iconst 0, 1) := by decide +kernel
theorem dX3_beginAnew_2 : decode cX3_beginAnew 2 = .ok (.putfield 23, 3) := by decide +kernel
theorem dX3_beginAnew_5 : decode cX3_beginAnew 5 = .ok (.aload_n 0, 1) := by decide +kernel
theorem dX3_beginAnew_6 : decode cX3_beginAnew 6 = .ok (.iconst 0, 1) := by decide +kernel
theorem dX3_beginAnew_7 : decode cX3_beginAnew 7 = .ok (.putfield 27, 3) := by decide +kernel
theorem dX3_beginAnew_10 : decode cX3_beginAnew 10 = .ok (.aload_n 0, 1) := by decide +kernel
theorem dX3_beginAnew_11 : decode cX3_beginAnew 11 = .ok (.iconst 0, 1) := by decide +kernel
theorem dX3_beginAnew_12 : decode cX3_beginAnew 12 = .ok (.putfield 30, 3) := by decide +kernel
theorem dX3_beginAnew_15 : decode cX3_beginAnew 15 = .ok (.aload_n 0, 1) := by decide +kernel
theorem dX3_beginAnew_16 : decode cX3_beginAnew 16 = .ok (.iconst 0, 1) := by decide +kernel
theorem dX3_beginAnew_17 : decode cX3_beginAnew 17 = .ok (.putfield 33, 3) := by decide +kernel
theorem dX3_beginAnew_20 : decode cX3_beginAnew 20 = .ok (.return_, 1) := by decide +kernel
set_option maxRecDepth 20000 in
theorem ggX3_rightStrokes_X1_at : GoodIn wsX3_rightStrokes wsX1_at := goodIn_r _ [8, 9, 16] (by decide +kernel) (by decide +kernel)
set_option maxRecDepth 20000 in
theorem gX3_rightStrokes_X1_at : GoodIn wsX3_rightStrokes (wsV RX3 39 RX1 yX1_at wsX1_at) := goodIn_app (goodIn_of _ (by decide +kernel)) ggX3_rightStrokes_X1_at
theorem dX3_rightStrokes_0 : decode cX3_rightStrokes 0 = .ok (.iconst 0, 1) := by decide +kernel
theorem dX3_rightStrokes_1 : decode cX3_rightStrokes 1 = .ok (.istore_n 1, 1) := by decide +kernel
theorem dX3_rightStrokes_2 : decode cX3_rightStrokes 2 = .ok (.iconst 0, 1) := by decide +kernel
theorem dX3_rightStrokes_3 : decode cX3_rightStrokes 3 = .ok (.istore_n 2, 1) := by decide +kernel
theorem dX3_rightStrokes_4 : decode cX3_rightStrokes 4 = .ok (.iload_n 2, 1) := by decide +kernel
theorem dX3_rightStrokes_5 : decode cX3_rightStrokes 5 = .ok (.aload_n 0, 1) := by decide +kernel
theorem dX3_rightStrokes_6 : decode cX3_rightStrokes 6 = .ok (.getfield 27, 3) := by decide +kernel
theorem dX3_rightStrokes_9 : decode cX3_rightStrokes 9 = .ok (.if_icmp .ge 31, 3) := by decide +kernel
theorem dX3_rightStrokes_12 : decode cX3_rightStrokes 12 = .ok (.aload_n 0, 1) := by decide +kernel
theorem dX3_rightStrokes_13 : decode cX3_rightStrokes 13 = .ok (.getfield 20, 3) := by decide +kernel
theorem dX3_rightStrokes_16 : decode cX3_rightStrokes 16 = .ok (.iload_n 2, 1) := by decide +kernel
theorem dX3_rightStrokes_17 : decode cX3_rightStrokes 17 = .ok (.invokevirtual 39, 3) := by decide +kernel
theorem dX3_rightStrokes_20 : decode cX3_rightStrokes 20 = .ok (.aload_n 0, 1) := by decide +kernel
theorem dX3_rightStrokes_21 : decode cX3_rightStrokes 21 = .ok (.getfield 14, 3) := by decide +kernel
theorem dX3_rightStrokes_24 : decode cX3_rightStrokes 24 = .ok (.iload_n 2, 1) := by decide +kernel
theorem dX3_rightStrokes_25 : decode cX3_rightStrokes 25 = .ok (.invokevirtual 39, 3) := by decide +kernel
theorem dX3_rightStrokes_28 : decode cX3_rightStrokes 28 = .ok (.if_icmp .ne 6, 3) := by decide +kernel
theorem dX3_rightStrokes_31 : decode cX3_rightStrokes 31 = .ok (.iinc 1 1, 3) := by decide +kernel
theorem dX3_rightStrokes_34 : decode cX3_rightStrokes 34 = .ok (.iinc 2 1, 3) := by decide +kernel
theorem dX3_rightStrokes_37 : decode cX3_rightStrokes 37 = .ok (.goto (-33), 3) := by decide +kernel
theorem dX3_rightStrokes_40 : decode cX3_rightStrokes 40 = .ok (.iload_n 1, 1) := by decide +kernel
theorem dX3_rightStrokes_41 : decode cX3_rightStrokes 41 = .ok (.ireturn, 1) := by decide +kernel
theorem dX4_init_0 : decode cX4_init 0 = .ok (.aload_n 0, 1) := by decide +kernel
theorem dX4_init_1 : decode cX4_init 1 = .ok (.invokespecial 3, 3) := by decide +kernel
theorem dX4_init_4 : decode cX4_init 4 = .ok (.aload_n 0, 1) := by decide +kernel
theorem dX4_init_5 : decode cX4_init 5 = .ok (.bipush 26, 2) := by decide +kernel
theorem dX4_init_7 : decode cX4_init 7 = .ok (.newarray .boolean, 2) := by decide +kernel
theorem dX4_init_9 : decode cX4_init 9 = .ok (.putfield 9, 3) := by decide +kernel
theorem dX4_init_12 : decode cX4_init 12 = .ok (.aload_n 0, 1) := by decide +kernel
theorem dX4_init_13 : decode cX4_init 13 = .ok (.aload_n 1, 1) := by decide +kernel
theorem dX4_init_14 : decode cX4_init 14 = .ok (.putfield 15, 3) := by decide +kernel
theorem dX4_init_17 : decode cX4_init 17 = .ok (.iconst 0, 1) := by decide +kernel
theorem dX4_init_18 : decode cX4_init 18 = .ok (.istore_n 2, 1) := by decide +kernel
theorem dX4_init_19 : decode cX4_init 19 = .ok (.iload_n 2, 1) := by decide +kernel
theorem dX4_init_20 : decode cX4_init 20 = .ok (.aload_n 0, 1) := by decide +kernel
theorem dX4_init_21 : decode cX4_init 21 = .ok (.getfield 9, 3) := by decide +kernel
theorem dX4_init_24 : decode cX4_init 24 = .ok (.arraylength, 1) := by decide +kernel
theorem dX4_init_25 : decode cX4_init 25 = .ok (.if_icmp .ge 25, 3) := by decide +kernel
theorem dX4_init_28 : decode cX4_init 28 = .ok (.aload_n 0, 1) := by decide +kernel
theorem dX4_init_29 : decode cX4_init 29 = .ok (.getfield 9, 3) := by decide +kernel
theorem dX4_init_32 : decode cX4_init 32 = .ok (.iload_n 2, 1) := by decide +kernel
theorem dX4_init_33 : decode cX4_init 33 = .ok (.iload_n 2, 1) := by decide +kernel
theorem dX4_init_34 : decode cX4_init 34 = .ok (.iconst 4, 1) := by decide +kernel
theorem dX4_init_35 : decode cX4_init 35 = .ok (.if_icmp .ge 7, 3) := by decide +kernel
theorem dX4_init_38 : decode cX4_init 38 = .ok (.iconst 1, 1) := by decide +kernel
theorem dX4_init_39 : decode cX4_init 39 = .ok (.goto 4, 3) := by decide +kernel
theorem dX4_init_42 : decode cX4_init 42 = .ok (.iconst 0, 1) := by decide +kernel
theorem dX4_init_43 : decode cX4_init 43 = .ok (.bastore, 1) := by decide +kernel
theorem dX4_init_44 : decode cX4_init 44 = .ok (.iinc 2 1, 3) := by decide +kernel
theorem dX4_init_47 : decode cX4_init 47 = .ok (.goto (-28), 3) := by decide +kernel
theorem dX4_init_50 : decode cX4_init 50 = .ok (.return_, 1) := by decide +kernel
theorem dX4_contains_0 : decode cX4_contains 0 = .ok (.iload_n 1, 1) := by decide +kernel
theorem dX4_contains_1 : decode cX4_contains 1 = .ok (.ifCond .lt 25, 3) := by decide +kernel
theorem dX4_contains_4 : decode cX4_contains 4 = .ok (.iload_n 1, 1) := by decide +kernel
theorem dX4_contains_5 : decode cX4_contains 5 = .ok (.aload_n 0, 1) := by decide +kernel
theorem dX4_contains_6 : decode cX4_contains 6 = .ok (.getfield 9, 3) := by decide +kernel
theorem dX4_contains_9 : decode cX4_contains 9 = .ok (.arraylength, 1) := by decide +kernel
theorem dX4_contains_10 : decode cX4_contains 10 = .ok (.if_icmp .ge 16, 3) := by decide +kernel
theorem dX4_contains_13 : decode cX4_contains 13 = .ok (.aload_n 0, 1) := by decide +kernel
theorem dX4_contains_14 : decode cX4_contains 14 = .ok (.getfield 9, 3) := by decide +kernel
theorem dX4_contains_17 : decode cX4_contains 17 = .ok (.iload_n 1, 1) := by decide +kernel
theorem dX4_contains_18 : decode cX4_contains 18 = .ok (.baload, 1) := by decide +kernel
theorem dX4_contains_19 : decode cX4_contains 19 = .ok (.ifCond .eq 7, 3) := by decide +kernel
theorem dX4_contains_22 : decode cX4_contains 22 = .ok (.iconst 1, 1) := by decide +kernel
theorem dX4_contains_23 : decode cX4_contains 23 = .ok (.goto 4, 3) := by decide +kernel
theorem dX4_contains_26 : decode cX4_contains 26 = .ok (.iconst 0, 1) := by decide +kernel
theorem dX4_contains_27 : decode cX4_contains 27 = .ok (.ireturn, 1) := by decide +kernel
set_option maxRecDepth 20000 in
theorem ggX4_weakestOfAll_X4_contains : GoodIn wsX4_weakestOfAll wsX4_contains := goodIn_r _ [6, 7, 21, 22] (by decide +kernel) (by decide +kernel)
set_option maxRecDepth 20000 in
theorem gX4_weakestOfAll_X4_contains : GoodIn wsX4_weakestOfAll (wsV RX4 19 RX4 yX4_contains wsX4_contains) := goodIn_app (goodIn_of _ (by decide +kernel)) ggX4_weakestOfAll_X4_contains
set_option maxRecDepth 20000 in
theorem ggX4_weakestOfAll_X2_isWeaker : GoodIn wsX4_weakestOfAll wsX2_isWeaker := goodIn_r _ [12, 13, 14, 15, 16, 17, 18, 19, 20, 23, 24, 25, 26, 27, 28, 29] (by decide +kernel) (by decide +kernel)
set_option maxRecDepth 20000 in
theorem gX4_weakestOfAll_X2_isWeaker : GoodIn wsX4_weakestOfAll (wsV RX4 23 RX2 yX2_isWeaker wsX2_isWeaker) := goodIn_app (goodIn_of _ (by decide +kernel)) ggX4_weakestOfAll_X2_isWeaker
theorem dX4_weakestOfAll_0 : decode cX4_weakestOfAll 0 = .ok (.iconst 0, 1) := by decide +kernel
theorem dX4_weakestOfAll_1 : decode cX4_weakestOfAll 1 = .ok (.istore_n 1, 1) := by decide +kernel
theorem dX4_weakestOfAll_2 : decode cX4_weakestOfAll 2 = .ok (.iconst 1, 1) := by decide +kernel
theorem dX4_weakestOfAll_3 : decode cX4_weakestOfAll 3 = .ok (.istore_n 2, 1) := by decide +kernel
theorem dX4_weakestOfAll_4 : decode cX4_weakestOfAll 4 = .ok (.iload_n 2, 1) := by decide +kernel
theorem dX4_weakestOfAll_5 : decode cX4_weakestOfAll 5 = .ok (.bipush 26, 2) := by decide +kernel
theorem dX4_weakestOfAll_7 : decode cX4_weakestOfAll 7 = .ok (.if_icmp .ge 31, 3) := by decide +kernel
theorem dX4_weakestOfAll_10 : decode cX4_weakestOfAll 10 = .ok (.aload_n 0, 1) := by decide +kernel
theorem dX4_weakestOfAll_11 : decode cX4_weakestOfAll 11 = .ok (.iload_n 2, 1) := by decide +kernel
theorem dX4_weakestOfAll_12 : decode cX4_weakestOfAll 12 = .ok (.invokevirtual 19, 3) := by decide +kernel
theorem dX4_weakestOfAll_15 : decode cX4_weakestOfAll 15 = .ok (.ifCond .eq 17, 3) := by decide +kernel
theorem dX4_weakestOfAll_18 : decode cX4_weakestOfAll 18 = .ok (.aload_n 0, 1) := by decide +kernel
theorem dX4_weakestOfAll_19 : decode cX4_weakestOfAll 19 = .ok (.getfield 15, 3) := by decide +kernel
theorem dX4_weakestOfAll_22 : decode cX4_weakestOfAll 22 = .ok (.iload_n 2, 1) := by decide +kernel
theorem dX4_weakestOfAll_23 : decode cX4_weakestOfAll 23 = .ok (.iload_n 1, 1) := by decide +kernel
theorem dX4_weakestOfAll_24 : decode cX4_weakestOfAll 24 = .ok (.invokevirtual 23, 3) := by decide +kernel
theorem dX4_weakestOfAll_27 : decode cX4_weakestOfAll 27 = .ok (.ifCond .eq 5, 3) := by decide +kernel
theorem dX4_weakestOfAll_30 : decode cX4_weakestOfAll 30 = .ok (.iload_n 2, 1) := by decide +kernel
theorem dX4_weakestOfAll_31 : decode cX4_weakestOfAll 31 = .ok (.istore_n 1, 1) := by decide +kernel
theorem dX4_weakestOfAll_32 : decode cX4_weakestOfAll 32 = .ok (.iinc 2 1, 3) := by decide +kernel
theorem dX4_weakestOfAll_35 : decode cX4_weakestOfAll 35 = .ok (.goto (-31), 3) := by decide +kernel
theorem dX4_weakestOfAll_38 : decode cX4_weakestOfAll 38 = .ok (.iload_n 1, 1) := by decide +kernel
theorem dX4_weakestOfAll_39 : decode cX4_weakestOfAll 39 = .ok (.ireturn, 1) := by decide +kernel
set_option maxRecDepth 20000 in
theorem ggX4_slowestBehind_X2_timeOfPair : GoodIn wsX4_slowestBehind wsX2_timeOfPair := goodIn_r _ [6, 7, 8, 9, 5, 10, 11, 12, 13, 14, 15, 16, 25, 26, 27, 28, 29, 30, 31] (by decide +kernel) (by decide +kernel)
set_option maxRecDepth 20000 in
theorem gX4_slowestBehind_X2_timeOfPair : GoodIn wsX4_slowestBehind (wsV RX4 29 RX2 yX2_timeOfPair wsX2_timeOfPair) := goodIn_app (goodIn_of _ (by decide +kernel)) ggX4_slowestBehind_X2_timeOfPair
set_option maxRecDepth 20000 in
theorem ggX4_slowestBehind_X4_contains : GoodIn wsX4_slowestBehind wsX4_contains := goodIn_r _ [21, 22, 23, 24] (by decide +kernel) (by decide +kernel)
set_option maxRecDepth 20000 in
theorem gX4_slowestBehind_X4_contains : GoodIn wsX4_slowestBehind (wsV RX4 19 RX4 yX4_contains wsX4_contains) := goodIn_app (goodIn_of _ (by decide +kernel)) ggX4_slowestBehind_X4_contains
theorem dX4_slowestBehind_0 : decode cX4_slowestBehind 0 = .ok (.iconst (-1), 1) := by decide +kernel
theorem dX4_slowestBehind_1 : decode cX4_slowestBehind 1 = .ok (.istore_n 2, 1) := by decide +kernel
theorem dX4_slowestBehind_2 : decode cX4_slowestBehind 2 = .ok (.iconst (-1), 1) := by decide +kernel
theorem dX4_slowestBehind_3 : decode cX4_slowestBehind 3 = .ok (.istore_n 3, 1) := by decide +kernel
theorem dX4_slowestBehind_4 : decode cX4_slowestBehind 4 = .ok (.iconst 0, 1) := by decide +kernel
theorem dX4_slowestBehind_5 : decode cX4_slowestBehind 5 = .ok (.istore 4, 2) := by decide +kernel
theorem dX4_slowestBehind_7 : decode cX4_slowestBehind 7 = .ok (.iload 4, 2) := by decide +kernel
theorem dX4_slowestBehind_9 : decode cX4_slowestBehind 9 = .ok (.bipush 26, 2) := by decide +kernel
theorem dX4_slowestBehind_11 : decode cX4_slowestBehind 11 = .ok (.if_icmp .ge 48, 3) := by decide +kernel
theorem dX4_slowestBehind_14 : decode cX4_slowestBehind 14 = .ok (.aload_n 0, 1) := by decide +kernel
theorem dX4_slowestBehind_15 : decode cX4_slowestBehind 15 = .ok (.getfield 15, 3) := by decide +kernel
theorem dX4_slowestBehind_18 : decode cX4_slowestBehind 18 = .ok (.iload_n 1, 1) := by decide +kernel
theorem dX4_slowestBehind_19 : decode cX4_slowestBehind 19 = .ok (.iload 4, 2) := by decide +kernel
theorem dX4_slowestBehind_21 : decode cX4_slowestBehind 21 = .ok (.invokevirtual 29, 3) := by decide +kernel
theorem dX4_slowestBehind_24 : decode cX4_slowestBehind 24 = .ok (.istore 5, 2) := by decide +kernel
theorem dX4_slowestBehind_26 : decode cX4_slowestBehind 26 = .ok (.aload_n 0, 1) := by decide +kernel
theorem dX4_slowestBehind_27 : decode cX4_slowestBehind 27 = .ok (.iload 4, 2) := by decide +kernel
theorem dX4_slowestBehind_29 : decode cX4_slowestBehind 29 = .ok (.invokevirtual 19, 3) := by decide +kernel
theorem dX4_slowestBehind_32 : decode cX4_slowestBehind 32 = .ok (.ifCond .eq 21, 3) := by decide +kernel
theorem dX4_slowestBehind_35 : decode cX4_slowestBehind 35 = .ok (.iload 4, 2) := by decide +kernel
theorem dX4_slowestBehind_37 : decode cX4_slowestBehind 37 = .ok (.iload_n 1, 1) := by decide +kernel
theorem dX4_slowestBehind_38 : decode cX4_slowestBehind 38 = .ok (.if_icmp .eq 15, 3) := by decide +kernel
theorem dX4_slowestBehind_41 : decode cX4_slowestBehind 41 = .ok (.iload 5, 2) := by decide +kernel
theorem dX4_slowestBehind_43 : decode cX4_slowestBehind 43 = .ok (.iload_n 3, 1) := by decide +kernel
theorem dX4_slowestBehind_44 : decode cX4_slowestBehind 44 = .ok (.if_icmp .le 9, 3) := by decide +kernel
theorem dX4_slowestBehind_47 : decode cX4_slowestBehind 47 = .ok (.iload 4, 2) := by decide +kernel
theorem dX4_slowestBehind_49 : decode cX4_slowestBehind 49 = .ok (.istore_n 2, 1) := by decide +kernel
theorem dX4_slowestBehind_50 : decode cX4_slowestBehind 50 = .ok (.iload 5, 2) := by decide +kernel
theorem dX4_slowestBehind_52 : decode cX4_slowestBehind 52 = .ok (.istore_n 3, 1) := by decide +kernel
theorem dX4_slowestBehind_53 : decode cX4_slowestBehind 53 = .ok (.iinc 4 1, 3) := by decide +kernel
theorem dX4_slowestBehind_56 : decode cX4_slowestBehind 56 = .ok (.goto (-49), 3) := by decide +kernel
theorem dX4_slowestBehind_59 : decode cX4_slowestBehind 59 = .ok (.iload_n 2, 1) := by decide +kernel
theorem dX4_slowestBehind_60 : decode cX4_slowestBehind 60 = .ok (.ireturn, 1) := by decide +kernel
set_option maxRecDepth 20000 in
theorem ggX4_review_X4_takeOut : GoodIn wsX4_review wsX4_takeOut := goodIn_r _ [5, 6, 7, 8, 9, 10, 4, 11, 12, 13, 14, 15, 16, 17, 18, 19, 20, 21, 22, 23, 24, 25, 26, 27, 28, 29, 30, 31, 32, 33, 48, 49, 50, 51, 52, 53, 54, 55, 56] (by decide +kernel) (by decide +kernel)
set_option maxRecDepth 20000 in
theorem gX4_review_X4_takeOut : GoodIn wsX4_review (wsV RX4 33 RX4 yX4_takeOut wsX4_takeOut) := goodIn_app (goodIn_of _ (by decide +kernel)) ggX4_review_X4_takeOut
set_option maxRecDepth 20000 in
theorem ggX4_review_X4_areAllGood : GoodIn wsX4_review wsX4_areAllGood := goodIn_r _ [37, 7, 8, 9, 10, 4, 11, 6, 38, 39, 40, 15, 41, 17, 29, 42, 18, 43, 19, 20, 21, 22, 23, 24, 48, 49, 50, 51, 52, 53, 54, 55, 56] (by decide +kernel) (by decide +kernel)
set_option maxRecDepth 20000 in
theorem gX4_review_X4_areAllGood : GoodIn wsX4_review (wsV RX4 37 RX4 yX4_areAllGood wsX4_areAllGood) := goodIn_app (goodIn_of _ (by decide +kernel)) ggX4_review_X4_areAllGood
set_option maxRecDepth 20000 in
theorem ggX4_review_X4_letIn : GoodIn wsX4_review wsX4_letIn := goodIn_r _ [47, 6, 8, 9, 10, 4, 11, 48, 49] (by decide +kernel) (by decide +kernel)
set_option maxRecDepth 20000 in
theorem gX4_review_X4_letIn : GoodIn wsX4_review (wsV RX4 40 RX4 yX4_letIn wsX4_letIn) := goodIn_app (goodIn_of _ (by decide +kernel)) ggX4_review_X4_letIn
theorem dX4_review_0 : decode cX4_review 0 = .ok (.aload_n 0, 1) := by decide +kernel
theorem dX4_review_1 : decode cX4_review 1 = .ok (.invokevirtual 33, 3) := by decide +kernel
theorem dX4_review_4 : decode cX4_review 4 = .ok (.ifCond .ne 10, 3) := by decide +kernel
theorem dX4_review_7 : decode cX4_review 7 = .ok (.aload_n 0, 1) := by decide +kernel
theorem dX4_review_8 : decode cX4_review 8 = .ok (.invokevirtual 37, 3) := by decide +kernel
theorem dX4_review_11 : decode cX4_review 11 = .ok (.ifCond .ne 7, 3) := by decide +kernel
theorem dX4_review_14 : decode cX4_review 14 = .ok (.iconst (-1), 1) := by decide +kernel
theorem dX4_review_15 : decode cX4_review 15 = .ok (.goto 7, 3) := by decide +kernel
theorem dX4_review_18 : decode cX4_review 18 = .ok (.aload_n 0, 1) := by decide +kernel
theorem dX4_review_19 : decode cX4_review 19 = .ok (.invokevirtual 40, 3) := by decide +kernel
theorem dX4_review_22 : decode cX4_review 22 = .ok (.ireturn, 1) := by decide +kernel
set_option maxRecDepth 20000 in
theorem ggX4_takeOut_X4_contains : GoodIn wsX4_takeOut wsX4_contains := goodIn_r _ [7, 1, 30, 31] (by decide +kernel) (by decide +kernel)
set_option maxRecDepth 20000 in
theorem gX4_takeOut_X4_contains : GoodIn wsX4_takeOut (wsV RX4 19 RX4 yX4_contains wsX4_contains) := goodIn_app (goodIn_of _ (by decide +kernel)) ggX4_takeOut_X4_contains
set_option maxRecDepth 20000 in
theorem ggX4_takeOut_X2_mustGoOut : GoodIn wsX4_takeOut wsX2_mustGoOut := goodIn_r _ [12, 13, 14, 15, 16, 17, 18, 19, 20, 32, 33, 34, 35, 36, 37, 38] (by decide +kernel) (by decide +kernel)
set_option maxRecDepth 20000 in
theorem gX4_takeOut_X2_mustGoOut : GoodIn wsX4_takeOut (wsV RX4 44 RX2 yX2_mustGoOut wsX2_mustGoOut) := goodIn_app (goodIn_of _ (by decide +kernel)) ggX4_takeOut_X2_mustGoOut
set_option maxRecDepth 20000 in
theorem ggX4_takeOut_X2_forget : GoodIn wsX4_takeOut wsX2_forget := goodIn_r _ [24, 13, 25, 14, 26, 27, 28, 18, 29, 20, 32, 33, 34, 35, 36, 37, 38] (by decide +kernel) (by decide +kernel)
set_option maxRecDepth 20000 in
theorem gX4_takeOut_X2_forget : GoodIn wsX4_takeOut (wsV RX4 47 RX2 yX2_forget wsX2_forget) := goodIn_app (goodIn_of _ (by decide +kernel)) ggX4_takeOut_X2_forget
theorem dX4_takeOut_0 : decode cX4_takeOut 0 = .ok (.iconst 0, 1) := by decide +kernel
theorem dX4_takeOut_1 : decode cX4_takeOut 1 = .ok (.istore_n 1, 1) := by decide +kernel
theorem dX4_takeOut_2 : decode cX4_takeOut 2 = .ok (.iconst 4, 1) := by decide +kernel
theorem dX4_takeOut_3 : decode cX4_takeOut 3 = .ok (.istore_n 2, 1) := by decide +kernel
theorem dX4_takeOut_4 : decode cX4_takeOut 4 = .ok (.iload_n 2, 1) := by decide +kernel
theorem dX4_takeOut_5 : decode cX4_takeOut 5 = .ok (.aload_n 0, 1) := by decide +kernel
theorem dX4_takeOut_6 : decode cX4_takeOut 6 = .ok (.getfield 9, 3) := by decide +kernel
theorem dX4_takeOut_9 : decode cX4_takeOut 9 = .ok (.arraylength, 1) := by decide +kernel
theorem dX4_takeOut_10 : decode cX4_takeOut 10 = .ok (.if_icmp .ge 45, 3) := by decide +kernel
theorem dX4_takeOut_13 : decode cX4_takeOut 13 = .ok (.aload_n 0, 1) := by decide +kernel
theorem dX4_takeOut_14 : decode cX4_takeOut 14 = .ok (.iload_n 2, 1) := by decide +kernel
theorem dX4_takeOut_15 : decode cX4_takeOut 15 = .ok (.invokevirtual 19, 3) := by decide +kernel
theorem dX4_takeOut_18 : decode cX4_takeOut 18 = .ok (.ifCond .eq 31, 3) := by decide +kernel
theorem dX4_takeOut_21 : decode cX4_takeOut 21 = .ok (.aload_n 0, 1) := by decide +kernel
theorem dX4_takeOut_22 : decode cX4_takeOut 22 = .ok (.getfield 15, 3) := by decide +kernel
theorem dX4_takeOut_25 : decode cX4_takeOut 25 = .ok (.iload_n 2, 1) := by decide +kernel
theorem dX4_takeOut_26 : decode cX4_takeOut 26 = .ok (.invokevirtual 44, 3) := by decide +kernel
theorem dX4_takeOut_29 : decode cX4_takeOut 29 = .ok (.ifCond .eq 20, 3) := by decide +kernel
theorem dX4_takeOut_32 : decode cX4_takeOut 32 = .ok (.aload_n 0, 1) := by decide +kernel
theorem dX4_takeOut_33 : decode cX4_takeOut 33 = .ok (.getfield 9, 3) := by decide +kernel
theorem dX4_takeOut_36 : decode cX4_takeOut 36 = .ok (.iload_n 2, 1) := by decide +kernel
theorem dX4_takeOut_37 : decode cX4_takeOut 37 = .ok (.iconst 0, 1) := by decide +kernel
theorem dX4_takeOut_38 : decode cX4_takeOut 38 = .ok (.bastore, 1) := by decide +kernel
theorem dX4_takeOut_39 : decode cX4_takeOut 39 = .ok (.aload_n 0, 1) := by decide +kernel
theorem dX4_takeOut_40 : decode cX4_takeOut 40 = .ok (.getfield 15, 3) := by decide +kernel
theorem dX4_takeOut_43 : decode cX4_takeOut 43 = .ok (.iload_n 2, 1) := by decide +kernel
theorem dX4_takeOut_44 : decode cX4_takeOut 44 = .ok (.invokevirtual 47, 3) := by decide +kernel
theorem dX4_takeOut_47 : decode cX4_takeOut 47 = .ok (.iconst 1, 1) := by decide +kernel
theorem dX4_takeOut_48 : decode cX4_takeOut 48 = .ok (.istore_n 1, 1) := by decide +kernel
theorem dX4_takeOut_49 : decode cX4_takeOut 49 = .ok (.iinc 2 1, 3) := by decide +kernel
theorem dX4_takeOut_52 : decode cX4_takeOut 52 = .ok (.goto (-48), 3) := by decide +kernel
theorem dX4_takeOut_55 : decode cX4_takeOut 55 = .ok (.iload_n 1, 1) := by decide +kernel
theorem dX4_takeOut_56 : decode cX4_takeOut 56 = .ok (.ireturn, 1) := by decide +kernel
set_option maxRecDepth 20000 in
theorem ggX4_areAllGood_X4_contains : GoodIn wsX4_areAllGood wsX4_contains := goodIn_r _ [6, 7, 24, 25] (by decide +kernel) (by decide +kernel)
set_option maxRecDepth 20000 in
theorem gX4_areAllGood_X4_contains : GoodIn wsX4_areAllGood (wsV RX4 19 RX4 yX4_contains wsX4_contains) := goodIn_app (goodIn_of _ (by decide +kernel)) ggX4_areAllGood_X4_contains
set_option maxRecDepth 20000 in
theorem ggX4_areAllGood_X2_fulfilsWish : GoodIn wsX4_areAllGood wsX2_fulfilsWish := goodIn_r _ [12, 13, 14, 15, 16, 17, 18, 19, 20, 21, 22, 23, 26, 27, 28, 29, 30, 31, 32] (by decide +kernel) (by decide +kernel)
set_option maxRecDepth 20000 in
theorem gX4_areAllGood_X2_fulfilsWish : GoodIn wsX4_areAllGood (wsV RX4 51 RX2 yX2_fulfilsWish wsX2_fulfilsWish) := goodIn_app (goodIn_of _ (by decide +kernel)) ggX4_areAllGood_X2_fulfilsWish
theorem dX4_areAllGood_0 : decode cX4_areAllGood 0 = .ok (.iconst 0, 1) := by decide +kernel
theorem dX4_areAllGood_1 : decode cX4_areAllGood 1 = .ok (.istore_n 1, 1) := by decide +kernel
theorem dX4_areAllGood_2 : decode cX4_areAllGood 2 = .ok (.iload_n 1, 1) := by decide +kernel
theorem dX4_areAllGood_3 : decode cX4_areAllGood 3 = .ok (.bipush 26, 2) := by decide +kernel
theorem dX4_areAllGood_5 : decode cX4_areAllGood 5 = .ok (.if_icmp .ge 30, 3) := by decide +kernel
theorem dX4_areAllGood_8 : decode cX4_areAllGood 8 = .ok (.aload_n 0, 1) := by decide +kernel
theorem dX4_areAllGood_9 : decode cX4_areAllGood 9 = .ok (.iload_n 1, 1) := by decide +kernel
theorem dX4_areAllGood_10 : decode cX4_areAllGood 10 = .ok (.invokevirtual 19, 3) := by decide +kernel
theorem dX4_areAllGood_13 : decode cX4_areAllGood 13 = .ok (.ifCond .eq 16, 3) := by decide +kernel
theorem dX4_areAllGood_16 : decode cX4_areAllGood 16 = .ok (.aload_n 0, 1) := by decide +kernel
theorem dX4_areAllGood_17 : decode cX4_areAllGood 17 = .ok (.getfield 15, 3) := by decide +kernel
theorem dX4_areAllGood_20 : decode cX4_areAllGood 20 = .ok (.iload_n 1, 1) := by decide +kernel
theorem dX4_areAllGood_21 : decode cX4_areAllGood 21 = .ok (.invokevirtual 51, 3) := by decide +kernel
theorem dX4_areAllGood_24 : decode cX4_areAllGood 24 = .ok (.ifCond .ne 5, 3) := by decide +kernel
theorem dX4_areAllGood_27 : decode cX4_areAllGood 27 = .ok (.iconst 0, 1) := by decide +kernel
theorem dX4_areAllGood_28 : decode cX4_areAllGood 28 = .ok (.ireturn, 1) := by decide +kernel
theorem dX4_areAllGood_29 : decode cX4_areAllGood 29 = .ok (.iinc 1 1, 3) := by decide +kernel
theorem dX4_areAllGood_32 : decode cX4_areAllGood 32 = .ok (.goto (-30), 3) := by decide +kernel
theorem dX4_areAllGood_35 : decode cX4_areAllGood 35 = .ok (.iconst 1, 1) := by decide +kernel
theorem dX4_areAllGood_36 : decode cX4_areAllGood 36 = .ok (.ireturn, 1) := by decide +kernel
set_option maxRecDepth 20000 in
theorem ggX4_letIn_X4_contains : GoodIn wsX4_letIn wsX4_contains := goodIn_r _ [6, 1, 7, 8] (by decide +kernel) (by decide +kernel)
set_option maxRecDepth 20000 in
theorem gX4_letIn_X4_contains : GoodIn wsX4_letIn (wsV RX4 19 RX4 yX4_contains wsX4_contains) := goodIn_app (goodIn_of _ (by decide +kernel)) ggX4_letIn_X4_contains
theorem dX4_letIn_0 : decode cX4_letIn 0 = .ok (.iconst 0, 1) := by decide +kernel
theorem dX4_letIn_1 : decode cX4_letIn 1 = .ok (.istore_n 1, 1) := by decide +kernel
theorem dX4_letIn_2 : decode cX4_letIn 2 = .ok (.iload_n 1, 1) := by decide +kernel
theorem dX4_letIn_3 : decode cX4_letIn 3 = .ok (.aload_n 0, 1) := by decide +kernel
theorem dX4_letIn_4 : decode cX4_letIn 4 = .ok (.getfield 9, 3) := by decide +kernel
theorem dX4_letIn_7 : decode cX4_letIn 7 = .ok (.arraylength, 1) := by decide +kernel
theorem dX4_letIn_8 : decode cX4_letIn 8 = .ok (.if_icmp .ge 26, 3) := by decide +kernel
theorem dX4_letIn_11 : decode cX4_letIn 11 = .ok (.aload_n 0, 1) := by decide +kernel
theorem dX4_letIn_12 : decode cX4_letIn 12 = .ok (.iload_n 1, 1) := by decide +kernel
theorem dX4_letIn_13 : decode cX4_letIn 13 = .ok (.invokevirtual 19, 3) := by decide +kernel
theorem dX4_letIn_16 : decode cX4_letIn 16 = .ok (.ifCond .ne 12, 3) := by decide +kernel
theorem dX4_letIn_19 : decode cX4_letIn 19 = .ok (.aload_n 0, 1) := by decide +kernel
theorem dX4_letIn_20 : decode cX4_letIn 20 = .ok (.getfield 9, 3) := by decide +kernel
theorem dX4_letIn_23 : decode cX4_letIn 23 = .ok (.iload_n 1, 1) := by decide +kernel
theorem dX4_letIn_24 : decode cX4_letIn 24 = .ok (.iconst 1, 1) := by decide +kernel
theorem dX4_letIn_25 : decode cX4_letIn 25 = .ok (.bastore, 1) := by decide +kernel
theorem dX4_letIn_26 : decode cX4_letIn 26 = .ok (.iload_n 1, 1) := by decide +kernel
theorem dX4_letIn_27 : decode cX4_letIn 27 = .ok (.ireturn, 1) := by decide +kernel
theorem dX4_letIn_28 : decode cX4_letIn 28 = .ok (.iinc 1 1, 3) := by decide +kernel
theorem dX4_letIn_31 : decode cX4_letIn 31 = .ok (.goto (-29), 3) := by decide +kernel
theorem dX4_letIn_34 : decode cX4_letIn 34 = .ok (.iconst (-1), 1) := by decide +kernel
theorem dX4_letIn_35 : decode cX4_letIn 35 = .ok (.ireturn, 1) := by decide +kernel
set_option maxRecDepth 20000 in
theorem ggX5_init_X1_init : GoodIn wsX5_init wsX1_init := goodIn_r _ [11, 12, 2, 3, 13, 14, 15, 16, 17, 18, 19, 20, 21, 22, 23] (by decide +kernel) (by decide +kernel)
set_option maxRecDepth 20000 in
theorem gX5_init_X1_init : GoodIn wsX5_init (wsX1_init) := ggX5_init_X1_init
theorem dX5_init_0 : decode cX5_init 0 = .ok (.aload_n 0, 1) := by decide +kernel
theorem dX5_init_1 : decode cX5_init 1 = .ok (.invokespecial 3, 3) := by decide +kernel
theorem dX5_init_4 : decode cX5_init 4 = .ok (.aload_n 0, 1) := by decide +kernel
theorem dX5_init_5 : decode cX5_init 5 = .ok (.new 9, 3) := by decide +kernel
theorem dX5_init_8 : decode cX5_init 8 = .ok (.dup, 1) := by decide +kernel
theorem dX5_init_9 : decode cX5_init 9 = .ok (.bipush 100, 2) := by decide +kernel
theorem dX5_init_11 : decode cX5_init 11 = .ok (.iconst 0, 1) := by decide +kernel
theorem dX5_init_12 : decode cX5_init 12 = .ok (.invokespecial 11, 3) := by decide +kernel
theorem dX5_init_15 : decode cX5_init 15 = .ok (.putfield 14, 3) := by decide +kernel
theorem dX5_init_18 : decode cX5_init 18 = .ok (.aload_n 0, 1) := by decide +kernel
theorem dX5_init_19 : decode cX5_init 19 = .ok (.iconst 0, 1) := by decide +kernel
theorem dX5_init_20 : decode cX5_init 20 = .ok (.putfield 20, 3) := by decide +kernel
theorem dX5_init_23 : decode cX5_init 23 = .ok (.return_, 1) := by decide +kernel
theorem dX5_isFull_0 : decode cX5_isFull 0 = .ok (.aload_n 0, 1) := by decide +kernel
theorem dX5_isFull_1 : decode cX5_isFull 1 = .ok (.getfield 20, 3) := by decide +kernel
theorem dX5_isFull_4 : decode cX5_isFull 4 = .ok (.bipush 100, 2) := by decide +kernel
theorem dX5_isFull_6 : decode cX5_isFull 6 = .ok (.if_icmp .lt 7, 3) := by decide +kernel
theorem dX5_isFull_9 : decode cX5_isFull 9 = .ok (.iconst 1, 1) := by decide +kernel
theorem dX5_isFull_10 : decode cX5_isFull 10 = .ok (.goto 4, 3) := by decide +kernel
theorem dX5_isFull_13 : decode cX5_isFull 13 = .ok (.iconst 0, 1) := by decide +kernel
theorem dX5_isFull_14 : decode cX5_isFull 14 = .ok (.ireturn, 1) := by decide +kernel
set_option maxRecDepth 20000 in
theorem ggX5_keep_X1_set : GoodIn wsX5_keep wsX1_set := goodIn_r _ [7, 8, 11] (by decide +kernel) (by decide +kernel)
set_option maxRecDepth 20000 in
theorem gX5_keep_X1_set : GoodIn wsX5_keep (wsV RX5 24 RX1 yX1_set wsX1_set) := goodIn_app (goodIn_of _ (by decide +kernel)) ggX5_keep_X1_set
theorem dX5_keep_0 : decode cX5_keep 0 = .ok (.aload_n 0, 1) := by decide +kernel
theorem dX5_keep_1 : decode cX5_keep 1 = .ok (.getfield 14, 3) := by decide +kernel
theorem dX5_keep_4 : decode cX5_keep 4 = .ok (.aload_n 0, 1) := by decide +kernel
theorem dX5_keep_5 : decode cX5_keep 5 = .ok (.getfield 20, 3) := by decide +kernel
theorem dX5_keep_8 : decode cX5_keep 8 = .ok (.iload_n 1, 1) := by decide +kernel
theorem dX5_keep_9 : decode cX5_keep 9 = .ok (.invokevirtual 24, 3) := by decide +kernel
theorem dX5_keep_12 : decode cX5_keep 12 = .ok (.aload_n 0, 1) := by decide +kernel
theorem dX5_keep_13 : decode cX5_keep 13 = .ok (.dup, 1) := by decide +kernel
theorem dX5_keep_14 : decode cX5_keep 14 = .ok (.getfield 20, 3) := by decide +kernel
theorem dX5_keep_17 : decode cX5_keep 17 = .ok (.iconst 1, 1) := by decide +kernel
theorem dX5_keep_18 : decode cX5_keep 18 = .ok (.iadd, 1) := by decide +kernel
theorem dX5_keep_19 : decode cX5_keep 19 = .ok (.putfield 20, 3) := by decide +kernel
theorem dX5_keep_22 : decode cX5_keep 22 = .ok (.return_, 1) := by decide +kernel
set_option maxRecDepth 20000 in
theorem ggX5_fallsAtTheEnd_X1_at : GoodIn wsX5_fallsAtTheEnd wsX1_at := goodIn_r _ [7, 8, 11] (by decide +kernel) (by decide +kernel)
set_option maxRecDepth 20000 in
theorem gX5_fallsAtTheEnd_X1_at : GoodIn wsX5_fallsAtTheEnd (wsV RX5 27 RX1 yX1_at wsX1_at) := goodIn_app (goodIn_of _ (by decide +kernel)) ggX5_fallsAtTheEnd_X1_at
theorem dX5_fallsAtTheEnd_0 : decode cX5_fallsAtTheEnd 0 = .ok (.iconst 0, 1) := by decide +kernel
theorem dX5_fallsAtTheEnd_1 : decode cX5_fallsAtTheEnd 1 = .ok (.istore_n 1, 1) := by decide +kernel
theorem dX5_fallsAtTheEnd_2 : decode cX5_fallsAtTheEnd 2 = .ok (.aload_n 0, 1) := by decide +kernel
theorem dX5_fallsAtTheEnd_3 : decode cX5_fallsAtTheEnd 3 = .ok (.getfield 20, 3) := by decide +kernel
theorem dX5_fallsAtTheEnd_6 : decode cX5_fallsAtTheEnd 6 = .ok (.iconst 1, 1) := by decide +kernel
theorem dX5_fallsAtTheEnd_7 : decode cX5_fallsAtTheEnd 7 = .ok (.isub, 1) := by decide +kernel
theorem dX5_fallsAtTheEnd_8 : decode cX5_fallsAtTheEnd 8 = .ok (.istore_n 2, 1) := by decide +kernel
theorem dX5_fallsAtTheEnd_9 : decode cX5_fallsAtTheEnd 9 = .ok (.iload_n 2, 1) := by decide +kernel
theorem dX5_fallsAtTheEnd_10 : decode cX5_fallsAtTheEnd 10 = .ok (.ifCond .le 33, 3) := by decide +kernel
theorem dX5_fallsAtTheEnd_13 : decode cX5_fallsAtTheEnd 13 = .ok (.aload_n 0, 1) := by decide +kernel
theorem dX5_fallsAtTheEnd_14 : decode cX5_fallsAtTheEnd 14 = .ok (.getfield 14, 3) := by decide +kernel
theorem dX5_fallsAtTheEnd_17 : decode cX5_fallsAtTheEnd 17 = .ok (.iload_n 2, 1) := by decide +kernel
theorem dX5_fallsAtTheEnd_18 : decode cX5_fallsAtTheEnd 18 = .ok (.invokevirtual 27, 3) := by decide +kernel
theorem dX5_fallsAtTheEnd_21 : decode cX5_fallsAtTheEnd 21 = .ok (.aload_n 0, 1) := by decide +kernel
theorem dX5_fallsAtTheEnd_22 : decode cX5_fallsAtTheEnd 22 = .ok (.getfield 14, 3) := by decide +kernel
theorem dX5_fallsAtTheEnd_25 : decode cX5_fallsAtTheEnd 25 = .ok (.iload_n 2, 1) := by decide +kernel
theorem dX5_fallsAtTheEnd_26 : decode cX5_fallsAtTheEnd 26 = .ok (.iconst 1, 1) := by decide +kernel
theorem dX5_fallsAtTheEnd_27 : decode cX5_fallsAtTheEnd 27 = .ok (.isub, 1) := by decide +kernel
theorem dX5_fallsAtTheEnd_28 : decode cX5_fallsAtTheEnd 28 = .ok (.invokevirtual 27, 3) := by decide +kernel
theorem dX5_fallsAtTheEnd_31 : decode cX5_fallsAtTheEnd 31 = .ok (.if_icmp .ge 12, 3) := by decide +kernel
theorem dX5_fallsAtTheEnd_34 : decode cX5_fallsAtTheEnd 34 = .ok (.iinc 1 1, 3) := by decide +kernel
theorem dX5_fallsAtTheEnd_37 : decode cX5_fallsAtTheEnd 37 = .ok (.iinc 2 (-1), 3) := by decide +kernel
theorem dX5_fallsAtTheEnd_40 : decode cX5_fallsAtTheEnd 40 = .ok (.goto (-31), 3) := by decide +kernel
theorem dX5_fallsAtTheEnd_43 : decode cX5_fallsAtTheEnd 43 = .ok (.iload_n 1, 1) := by decide +kernel
theorem dX5_fallsAtTheEnd_44 : decode cX5_fallsAtTheEnd 44 = .ok (.ireturn, 1) := by decide +kernel
end
section
/-! ===== the environment that no method changes; contracts that read, contracts that write; their calls ===== -/
abbrev TY (z : Nat → ClassId) : List (ClassId × FieldType) := [(z 0, .int), (z 1, .boolean), (z 2, .long)]
def fingT (j : Nat) : Int32 := ([0, 1, 2, 3, 3, 4, 4, 5, 6, 7] : List Int32).getD j 0
def nestF : List (Nat × String × String × String) := [(104, "TypingCoach$Lesson", "size", "I"), (124, "TypingCoach$Lesson", "position", "I"), (157, "TypingCoach$Lesson", "mendedStrokes", "I"), (172, "TypingCoach$Figures", "counts", "LTypingCoach$Cells;"), (178, "TypingCoach$Figures", "times", "LTypingCoach$Cells;"), (181, "TypingCoach$Figures", "shares", "LTypingCoach$Cells;"), (193, "TypingCoach$Figures", "wishedTime", "I"), (196, "TypingCoach$Figures", "wishedShare", "I"), (206, "TypingCoach$Speeds", "size", "I"), (209, "TypingCoach$Speeds", "kept", "LTypingCoach$Cells;")]
def nestM : List (Nat × MethodName) := [(18, yX2_init), (34, yX3_init), (41, yX5_init)]
def textL : List (Nat × String) := [(109, "length out of range"), (119, "no such position"), (130, "no wanted letter is at the position"), (149, "the position is 0"), (161, "100 lessons have ended"), (187, "no such kind"), (189, "finger out of range"), (191, "wish out of range"), (207, "no such lesson"), (221, "no such letter"), (223, "millis out of range"), (72, "no such place"), (98, "40 letters are wanted")]
def excL : List String := ["java/lang/IndexOutOfBoundsException", "java/lang/IllegalArgumentException", "java/lang/IllegalStateException"]
def supL : List String := ["java/lang/RuntimeException", "java/lang/Exception", Bundle.tN]
def ncL : List (String × String) := [("java/lang/IllegalArgumentException", "java/lang/IndexOutOfBoundsException"), ("java/lang/IllegalStateException", "java/lang/IndexOutOfBoundsException"), ("java/lang/IllegalStateException", "java/lang/IllegalArgumentException")]
/-- what the tables and the statics give, and nobody changes: z the array classes, q the static table and the texts -/
def EV (D : va_G) (z : Nat → ClassId) (q : Nat → Nat) (A : Nat → Prop) (U : State) (H : Heap) : Prop :=
  va_K D vwCl (TY z) U ∧ ((∀ w ∈ nestF, va_Nw (.fieldLinkNest RX6 w.1 w.2.1 w.2.2.1 w.2.2.2 RX6) U) ∧ (∀ w ∈ nestM, va_Nw (.methodLinkNest RX6 w.1 w.2 RX6) U) ∧ va_Nw (.fieldLinkNest RX0 33 RX6 "FINGER_OF_COLUMN" "[I" RX6) U) ∧
  (vx_Zq Bundle.tN "UNASSIGNED_STACK" Bundle.steD A U H ∧ vx_Zq Bundle.tN "SUPPRESSED_SENTINEL" Bundle.listD A U H) ∧
  (va_Z RX6 "FINGER_OF_COLUMN" "[I" (.ref (q 0)) A U H ∧ va_T .int (q 0) 10 (fun j => .int (fingT j)) A U H) ∧
  (∀ t ∈ textL, vk_R RX6 t.1 t.2 (q t.1) U) ∧ (∀ X ∈ excL, va_Nw (.castable X X) U) ∧ (∀ w ∈ ncL, va_Nc w.1 w.2 U) ∧ (∀ Y ∈ supL, va_Nw (.declares (Bundle.initS Y)) U)
theorem EV.go {D : va_G} {z : Nat → ClassId} {q : Nat → Nat} {A B : Nat → Prop} {s U : State} {H H1 : Heap} (h : EV D z q A s H) (hk : ∀ a : Nat, a < H.size → ¬ A a → H1[a]? = H[a]?) (hAB : ∀ x, B x → A x) (hW : s.WarmedH U.vm) : EV D z q B U H1 := by
  obtain ⟨h1, ⟨h2, h3, h4⟩, ⟨h5, h6⟩, ⟨h7, h8⟩, h9, h10, h11, h12⟩ := h
  exact ⟨va_K.moved hW.alike h1, ⟨fun w hw => va_Nw.warmF hW (h2 w hw), fun w hw => va_Nw.warmM hW (h3 w hw), va_Nw.warmF hW h4⟩,
    ⟨vx_Zq.moved hW.alike ((h5.kept hk).narrow hAB), vx_Zq.moved hW.alike ((h6.kept hk).narrow hAB)⟩, ⟨va_Z.moved hW.alike ((h7.kept hk).narrow hAB), va_T.moved hW.alike ((h8.kept hk).narrow hAB)⟩, fun t ht => vk_R.warm hW (h9 t ht), fun X hX => va_Nw.warmC hW (h10 X hX), fun w hw => va_Nc.moved hW.alike (h11 w hw), fun Y hY => va_tabs rfl (rfl : (s.setVm U.vm).vm = U.vm) (by rw [Cond.declares_setVm hW.alike]; exact h12 Y hY)⟩
/-- where a method that reads begins -/
def RP (D : va_G) (z : Nat → ClassId) (q : Nat → Nat) (w : va_W) : State → Prop := fun U => va_P D vwCl w U.heap ∧ EV D z q (fun x => U.heap.size ≤ x) U U.heap
/-- where a method that writes begins -/
def WP (D : va_G) (z : Nat → ClassId) (q : Nat → Nat) (w : va_W) (sz : Nat) : State → Prop := fun U => U.heap.size = sz ∧ va_P D vwCl w U.heap ∧ va_D (fun _ => True) w ∧ EV D z q (va_A w sz) U U.heap
/-- an answer, and the heap as it was -/
def QR (v : Option Value) : Array Value → State → Outcome → State → Prop := fun _ st o t => o = .returned v ∧ t.heap = st.heap
/-- an answer, and the world behind it -/
def QW (D : va_G) (w1 : va_W) (A : Nat → Prop) (v : Option Value) : Array Value → State → Outcome → State → Prop := fun _ st o t => (o = .returned v ∧ va_P D vwCl w1 t.heap ∧ va_D A w1) ∧ va_F A st t
/-- what has been thrown, and what was there stays -/
def XK (bad : String → Prop) : String → State → State → Prop := fun E st t => bad E ∧ va_F (fun _ => False) st t
abbrev RD (l : Launch) (y : MethodName) (ws : List Cond) (rm : Room) (D : va_G) (z : Nat → ClassId) (q : Nat → Nat) (As : List Value) (w : va_W) (v : Option Value) : Prop := Met l y ws rm (va_Pc As (RP D z q w)) (QR v) 0 0 (fun _ => False)
abbrev WR (l : Launch) (y : MethodName) (ws : List Cond) (rm : Room) (D : va_G) (z : Nat → ClassId) (q : Nat → Nat) (As : List Value) (w : va_W) (sz : Nat) (w1 : va_W) (v : Option Value) : Prop := Met l y ws rm (va_Pc As (WP D z q w sz)) (QW D w1 (va_A w sz) v) 0 0 (va_A w sz)
/-- any end: what it says is told by a relation of what the answer and the world behind it hold -/
def QT {S : Type} (D : va_G) (A : Nat → Prop) (val : S → Option Value) (post : S → Prop) (w1 : S → va_W) : Array Value → State → Outcome → State → Prop := fun _ st o t => (∃ u : S, o = .returned (val u) ∧ post u ∧ va_P D vwCl (w1 u) t.heap ∧ va_D A (w1 u)) ∧ va_F A st t
theorem RP_blind {D : va_G} {z : Nat → ClassId} {q : Nat → Nat} {w : va_W} {As : List Value} : FrameBlind (va_Pc As (RP D z q w)) :=
  fun a U g mk h => ⟨h.1, h.2.1, h.2.2.go (U := U.calling g mk a) (fun _ _ _ => rfl) (fun _ h => h) (State.WarmedH.refl U)⟩
theorem WP_blind {D : va_G} {z : Nat → ClassId} {q : Nat → Nat} {w : va_W} {sz : Nat} {As : List Value} : FrameBlind (va_Pc As (WP D z q w sz)) :=
  fun a U g mk h => ⟨h.1, h.2.1, h.2.2.1, h.2.2.2.1, h.2.2.2.2.go (U := U.calling g mk a) (fun _ _ _ => rfl) (fun _ h => h) (State.WarmedH.refl U)⟩
theorem RD_mk {l : Launch} {y : MethodName} {ws ws' : List Cond} {rm : Room} {cc : ByteArray} {maxL : Nat} {ret : Option FieldType} {D : va_G} {z : Nat → ClassId} {q : Nat → Nat} {As : List Value} {w : va_W} {v : Option Value} (hy : plainName y.cls = true) (hw : ws = Cond.code y cc maxL ret :: ws') (hn : (lg_sl As).length ≤ maxL)
    (body : ∀ (p : Program) (e : Env) (s : State) (m : MethodId) (below : List Frame) (meth : Method) (c : Code), p.tables.exec = Jvm.exec → c.code = cc → meth.sig.returnType = ret → c.maxLocals = maxL → (∀ w ∈ ws, w.before As.toArray s = true) → s.vm.findClass y.cls = some m.cls → meth.locks = false → va_P D vwCl w s.heap → EV D z q (fun x => s.heap.size ≤ x) s s.heap → va_S (fun x => s.heap.size ≤ x) s.heap s.heap [] → (∀ x : Nat, s.heap.size ≤ x → (fun x => s.heap.size ≤ x) x) →
      ∀ ls : Array Slot, lv_has ls maxL (lv_args 0 As) → W p l e rm s m As.toArray below meth c s.heap [] 0 0 (MQ below (QR v) As.toArray s 0 0 (fun _ => False)) (F0 m 0 ls [])) : RD l y ws rm D z q As w v := by
  refine Met.ofW (cc := cc) (maxL := maxL) (ret := ret) hy hw ?_
  intro p e s m args below meth c s₁ B hml hv
  obtain ⟨rfl, hP, hE⟩ := hv
  rw [lg_entry_eq]
  exact body p e s m below meth c B.exec B.bytes B.returns hml (atoms_spec (ws := ws) B.pre) (findClass_of_methodNamed B.named) B.notSynchronized hP hE va_S.rf (fun _ h => h) _ (lv_entry As hn)
theorem WR_mk {l : Launch} {y : MethodName} {ws ws' : List Cond} {rm : Room} {cc : ByteArray} {maxL mc ms : Nat} {ret : Option FieldType} {D : va_G} {z : Nat → ClassId} {q : Nat → Nat} {As : List Value} {w : va_W} {sz : Nat} {Qc : (Nat → Prop) → Array Value → State → Outcome → State → Prop} (hy : plainName y.cls = true) (hw : ws = Cond.code y cc maxL ret :: ws') (hn : (lg_sl As).length ≤ maxL)
    (body : ∀ (p : Program) (e : Env) (s : State) (m : MethodId) (below : List Frame) (meth : Method) (c : Code) (A : Nat → Prop), p.tables.exec = Jvm.exec → c.code = cc → meth.sig.returnType = ret → c.maxLocals = maxL → (∀ w ∈ ws, w.before As.toArray s = true) → s.vm.findClass y.cls = some m.cls → meth.locks = false → (y.name = "<init>" → meth.name = "<init>") → ∀ H : Heap, va_P D vwCl w H → va_D A w → EV D z q A s s.heap → va_S A s.heap H [] → (∀ x : Nat, s.heap.size ≤ x → A x) →
      ∀ ls : Array Slot, lv_has ls maxL (lv_args 0 As) → W p l e rm s m As.toArray below meth c H [] 0 0 (MQ below (Qc A) As.toArray s mc ms A) (F0 m 0 ls [])) : Met l y ws rm (va_Pc As (WP D z q w sz)) (Qc (va_A w sz)) mc ms (va_A w sz) := by
  refine Met.ofW (cc := cc) (maxL := maxL) (ret := ret) hy hw ?_
  intro p e s m args below meth c s₁ B hml hv
  obtain ⟨rfl, rfl, hP, hD, hE⟩ := hv
  rw [lg_entry_eq]
  exact body p e s m below meth c (va_A w s.heap.size) B.exec B.bytes B.returns hml (atoms_spec (ws := ws) B.pre) (findClass_of_methodNamed B.named) B.notSynchronized (fun h => by rw [(name_of_methodNamed B.named B.method).1]; exact h) s.heap hP hD.self hE va_S.rf (fun _ h => Or.inr h) _ (lv_entry As hn)
section COMB
variable {p : Program} {l : Launch} {e : Env} {R : Room} {s : State} {m : MethodId} {args : Array Value} {below : List Frame} {meth : Method} {c : Code} {H : Heap} {locs : List Loc} {cells slots : Nat} {Q : State → Prop}
variable {D : va_G} {z : Nat → ClassId} {q : Nat → Nat} {A : Nat → Prop} {cc bytes : ByteArray} {pc nL maxL index n : Nat} {ls : Array Slot} {Ts ws ws' : List Cond} {own C : String} {y : MethodName} {ret : Option FieldType} {rm : Room} {b : Nat} {As rest st : List Value}
theorem rd_i {v x : Int32} (hx : p.tables.exec = Jvm.exec) (hb : c.code = cc) (hr : meth.sig.returnType = some .int) (hlocks : meth.locks = false) (hd : decode cc pc = .ok (.ireturn, 1)) (hv : x = v) :
    W p l e R s m args below meth c s.heap [] 0 0 (MQ below (QR (some (.int v))) args s 0 0 (fun _ => False)) (F0 m pc ls [.int x]) := by
  subst hv
  exact W.iret hx hb hr (fun t ht _ => ⟨rfl, ht⟩) (fun _ h => nomatch h) hd hlocks
theorem rd_z {v x : Int32} (hx : p.tables.exec = Jvm.exec) (hb : c.code = cc) (hr : meth.sig.returnType = some .boolean) (hlocks : meth.locks = false) (hd : decode cc pc = .ok (.ireturn, 1)) (hn : narrow .boolean (.int x) = .int x) (hv : x = v) :
    W p l e R s m args below meth c s.heap [] 0 0 (MQ below (QR (some (.int v))) args s 0 0 (fun _ => False)) (F0 m pc ls [.int x]) := by
  subst hv
  exact W.zret hx hb hr hn (fun t ht _ => ⟨rfl, ht⟩) (fun _ h => nomatch h) hd hlocks
theorem wr_v {w1 w2 : va_W} {mc ms : Nat} (hx : p.tables.exec = Jvm.exec) (hb : c.code = cc) (hr : meth.sig.returnType = none) (hlocks : meth.locks = false) (hP : va_P D vwCl w2 H) (hD : va_D A w2) (hS : va_S A s.heap H locs) (hd : decode cc pc = .ok (.return_, 1)) (hw : w2 = w1) (hc : cells ≤ mc) (hs : slots ≤ ms) :
    W p l e R s m args below meth c H locs cells slots (MQ below (QW D w1 A none) args s mc ms A) (F0 m pc ls []) := by
  subst hw
  exact W.widen hc hs (W.vret hx hb hr (fun t ht _ => ⟨⟨rfl, by rw [ht]; exact hP, hD⟩, hS.F ht⟩) hS.2.2 hd hlocks)
theorem wr_i {w1 w2 : va_W} {mc ms : Nat} {v x : Int32} (hx : p.tables.exec = Jvm.exec) (hb : c.code = cc) (hr : meth.sig.returnType = some .int) (hlocks : meth.locks = false) (hP : va_P D vwCl w2 H) (hD : va_D A w2) (hS : va_S A s.heap H locs) (hd : decode cc pc = .ok (.ireturn, 1)) (hw : w2 = w1) (hv : x = v) (hc : cells ≤ mc) (hs : slots ≤ ms) :
    W p l e R s m args below meth c H locs cells slots (MQ below (QW D w1 A (some (.int v))) args s mc ms A) (F0 m pc ls [.int x]) := by
  subst hw; subst hv
  exact W.widen hc hs (W.iret hx hb hr (fun t ht _ => ⟨⟨rfl, by rw [ht]; exact hP, hD⟩, hS.F ht⟩) hS.2.2 hd hlocks)
theorem wr_z {w1 w2 : va_W} {mc ms : Nat} {v x : Int32} (hx : p.tables.exec = Jvm.exec) (hb : c.code = cc) (hr : meth.sig.returnType = some .boolean) (hlocks : meth.locks = false) (hn : narrow .boolean (.int x) = .int x) (hP : va_P D vwCl w2 H) (hD : va_D A w2) (hS : va_S A s.heap H locs) (hd : decode cc pc = .ok (.ireturn, 1)) (hw : w2 = w1) (hv : x = v) (hc : cells ≤ mc) (hs : slots ≤ ms) :
    W p l e R s m args below meth c H locs cells slots (MQ below (QW D w1 A (some (.int v))) args s mc ms A) (F0 m pc ls [.int x]) := by
  subst hw; subst hv
  exact W.widen hc hs (W.zret hx hb hr hn (fun t ht _ => ⟨⟨rfl, by rw [ht]; exact hP, hD⟩, hS.F ht⟩) hS.2.2 hd hlocks)
theorem qt_v {S : Type} {val : S → Option Value} {post : S → Prop} {w1 : S → va_W} {w2 : va_W} {mc ms : Nat} (u : S) (hx : p.tables.exec = Jvm.exec) (hb : c.code = cc) (hr : meth.sig.returnType = none) (hlocks : meth.locks = false) (hP : va_P D vwCl w2 H) (hD : va_D A w2) (hS : va_S A s.heap H locs) (hd : decode cc pc = .ok (.return_, 1)) (hv : val u = none) (hw : w2 = w1 u) (hp : post u) (hc : cells ≤ mc) (hs : slots ≤ ms) :
    W p l e R s m args below meth c H locs cells slots (MQ below (QT D A val post w1) args s mc ms A) (F0 m pc ls []) := by
  subst hw
  exact W.widen hc hs (W.vret hx hb hr (fun t ht _ => ⟨⟨u, by rw [hv], hp, by rw [ht]; exact hP, hD⟩, hS.F ht⟩) hS.2.2 hd hlocks)
theorem qt_i {S : Type} {val : S → Option Value} {post : S → Prop} {w1 : S → va_W} {w2 : va_W} {mc ms : Nat} {x : Int32} (u : S) (hx : p.tables.exec = Jvm.exec) (hb : c.code = cc) (hr : meth.sig.returnType = some .int) (hlocks : meth.locks = false) (hP : va_P D vwCl w2 H) (hD : va_D A w2) (hS : va_S A s.heap H locs) (hd : decode cc pc = .ok (.ireturn, 1)) (hv : val u = some (.int x)) (hw : w2 = w1 u) (hp : post u) (hc : cells ≤ mc) (hs : slots ≤ ms) :
    W p l e R s m args below meth c H locs cells slots (MQ below (QT D A val post w1) args s mc ms A) (F0 m pc ls [.int x]) := by
  subst hw
  exact W.widen hc hs (W.iret hx hb hr (fun t ht _ => ⟨⟨u, by rw [hv], hp, by rw [ht]; exact hP, hD⟩, hS.F ht⟩) hS.2.2 hd hlocks)
theorem qt_z {S : Type} {val : S → Option Value} {post : S → Prop} {w1 : S → va_W} {w2 : va_W} {mc ms : Nat} {x : Int32} (u : S) (hx : p.tables.exec = Jvm.exec) (hb : c.code = cc) (hr : meth.sig.returnType = some .boolean) (hlocks : meth.locks = false) (hn : narrow .boolean (.int x) = .int x) (hP : va_P D vwCl w2 H) (hD : va_D A w2) (hS : va_S A s.heap H locs) (hd : decode cc pc = .ok (.ireturn, 1)) (hv : val u = some (.int x)) (hw : w2 = w1 u) (hp : post u) (hc : cells ≤ mc) (hs : slots ≤ ms) :
    W p l e R s m args below meth c H locs cells slots (MQ below (QT D A val post w1) args s mc ms A) (F0 m pc ls [.int x]) := by
  subst hw
  exact W.widen hc hs (W.zret hx hb hr hn (fun t ht _ => ⟨⟨u, by rw [hv], hp, by rw [ht]; exact hP, hD⟩, hS.F ht⟩) hS.2.2 hd hlocks)
theorem rd_call {a : Array Value} {v : Option Value} (hr : CallRun p l e R s m args below meth c H locs cells slots 0 0 (F0 m pc ls st) rest (QR v a) (fun _ => False))
    (kk : W p l e R s m args below meth c H locs cells slots Q (F0 m (pc + 3) ls (v.toList ++ rest))) : W p l e R s m args below meth c H locs cells slots Q (F0 m pc ls st) := by
  intro T hT X
  obtain ⟨v, st₀, t, T', L, h0, X', hL, e1, ⟨hv, hh⟩, st⟩ := hr T hT X
  cases hv
  obtain ⟨t2, a1, b1⟩ := kk T' (by rw [e1, hh, h0]) (Stand.forget X' (fun q h => (hL q h).elim))
  exact ⟨t2, st t2 a1, b1⟩
/-- what a callee that reads asks, out of the caller's world -/
theorem RP_of {wc wx : va_W} {U : State} (hE : EV D z q A s s.heap) (hS : va_S A s.heap H locs) (hA : ∀ x : Nat, s.heap.size ≤ x → A x) (hPc : va_P D vwCl wc H) (hU : U.heap = H) (hW : s.WarmedH U.vm) : RP D z q wc U := by
  subst hU
  exact ⟨hPc, hE.go hS.2.1 (fun x hx => hA x (Nat.le_trans hS.1 hx)) hW⟩
theorem WP_of {wc wx : va_W} {U : State} (hE : EV D z q A s s.heap) (hS : va_S A s.heap H locs) (hPc : va_P D vwCl wc H) (hDc : va_D A wc) (hF : ∀ x : Nat, va_A wc H.size x → A x) (hU : U.heap = H) (hW : s.WarmedH U.vm) : WP D z q wc H.size U := by
  subst hU
  exact ⟨rfl, hPc, hDc.weaken (fun _ _ _ _ => trivial), hE.go hS.2.1 hF hW⟩
theorem rdV {wc wx : va_W} {x : Int32} {ci : Nat} {fs : List Value} {kq : vw_C} (S : CallFix p m c cc nL s args Ts own) (hM : RD l y ws rm D z q (.ref b :: As) wc (some (.int x))) (cw : CallW R s args own C index y bytes maxL ret ws rm 0 0 n)
    (hE : EV D z q A s s.heap) (hS : va_S A s.heap H locs) (hA : ∀ x : Nat, s.heap.size ≤ x → A x) (hP : va_P D vwCl wx H) (is : List Nat) (hs : is.filterMap (fun i => wx[i]?) = wc) (he : wc[0]? = some (b, .inr (ci, fs))) (hc : vwCl[ci]? = some kq) (hC : kq.1 = C)
    (hn : As.length = n) (hsz : ls.size = nL) (hst : st = As.reverse ++ .ref b :: rest) (hW : (rest.map fun v => v.category).sum ≤ 8) (hdg : decode cc pc = .ok (.invokevirtual index, 3)) (hf : cells + 0 ≤ R.cells ∧ slots + 0 ≤ R.slots)
    (kk : W p l e R s m args below meth c H locs cells slots Q (F0 m (pc + 3) ls (.int x :: rest))) : W p l e R s m args below meth c H locs cells slots Q (F0 m pc ls st) := by
  have hPc := hP.sub is hs
  refine rd_call (W.runV S hM cw ⟨RP_blind, by subst hC; exact va_recv hE.1 hPc hc he, fun U hU hW => ⟨rfl, RP_of (wx := wx) hE hS hA hPc hU hW⟩⟩ rfl hn hsz hst (lv_room hW) hdg hf) kk
theorem rdS {wc wx : va_W} {x : Int32} (S : CallFix p m c cc nL s args Ts own) (hM : RD l y ws rm D z q As wc (some (.int x))) (cw : CallB R s args own index y bytes maxL ret ws rm 0 0 n ∧ (Cond.static y).before args s = true)
    (hE : EV D z q A s s.heap) (hS : va_S A s.heap H locs) (hA : ∀ x : Nat, s.heap.size ≤ x → A x) (hP : va_P D vwCl wx H) (is : List Nat) (hs : is.filterMap (fun i => wx[i]?) = wc)
    (hn : As.length = n) (hsz : ls.size = nL) (hst : st = As.reverse ++ rest) (hW : (rest.map fun v => v.category).sum ≤ 8) (hdg : decode cc pc = .ok (.invokestatic index, 3)) (hf : cells + 0 ≤ R.cells ∧ slots + 0 ≤ R.slots)
    (kk : W p l e R s m args below meth c H locs cells slots Q (F0 m (pc + 3) ls (.int x :: rest))) : W p l e R s m args below meth c H locs cells slots Q (F0 m pc ls st) := by
  have hPc := hP.sub is hs
  refine rd_call (W.runS S hM cw ⟨RP_blind, fun U hU hW => ⟨rfl, RP_of (wx := wx) hE hS hA hPc hU hW⟩⟩ rfl hn hsz hst (lv_room hW) hdg hf) kk
/-- the caller's world with the callee's cells put back at their places -/
def mxA (w1 : va_W) (isC : List Nat) : Nat → va_W → va_W
  | _, [] => []
  | k, x :: r => (match isC.idxOf? k with | some j => (w1[j]?).getD x | none => x) :: mxA w1 isC (k + 1) r
theorem mxA_spec {w1 : va_W} {isC : List Nat} (hlen : w1.length = isC.length) : ∀ (wx : va_W) (o k : Nat) (x : Nat × va_E), (mxA w1 isC o wx)[k]? = some x → (∃ j : Nat, isC[j]? = some (o + k) ∧ w1[j]? = some x) ∨ (o + k ∉ isC ∧ wx[k]? = some x) := by
  intro wx
  induction wx with
  | nil => intro o k x h; simp [mxA] at h
  | cons y r ih =>
    intro o k x h
    cases k with
    | zero =>
      rw [mxA, List.getElem?_cons_zero] at h
      cases hj : isC.idxOf? o with
      | none =>
        rw [hj] at h
        exact Or.inr ⟨by simpa using List.idxOf?_eq_none_iff.mp hj, by simpa using h⟩
      | some j =>
        rw [hj] at h
        have h1 : isC[j]? = some o := by
          have h2 := List.idxOf?_eq_some_iff.mp hj
          obtain ⟨h3, h4, -⟩ := h2
          rw [List.getElem?_eq_getElem h3]
          simpa using h4
        have hl : j < w1.length := by rw [hlen]; exact (List.getElem?_eq_some_iff.mp h1).1
        refine Or.inl ⟨j, h1, ?_⟩
        dsimp only at h
        rw [List.getElem?_eq_getElem hl] at h ⊢
        simpa using h
    | succ k =>
      rw [mxA, List.getElem?_cons_succ] at h
      have h1 := ih (o + 1) k x h
      rw [show o + 1 + k = o + (k + 1) by omega] at h1
      simpa using h1
theorem mx_join {A0 : Nat → Prop} {wx wc w1 : va_W} {H H1 : Heap} (hP : va_P D vwCl wx H) (hD : va_D A0 wx) (isC : List Nat) (hC : isC.map (fun i => wx[i]?) = wc.map some) (hlen : w1.length = isC.length)
    (hk : ∀ q : Nat, q < H.size → ¬ va_A wc H.size q → H1[q]? = H[q]?) (hF : ∀ q, va_A wc H.size q → A0 q) (hP1 : va_P D vwCl w1 H1) (hD1 : va_D (va_A wc H.size) w1) : va_P D vwCl (mxA w1 isC 0 wx) H1 ∧ va_D A0 (mxA w1 isC 0 wx) := by
  have apart : ∀ (k : Nat) (q : Nat × va_E), k ∉ isC → wx[k]? = some q → q.1 < H.size ∧ ¬ va_A wc H.size q.1 := by
    intro k q hn hq
    have hl := (hP k q hq).lt
    refine ⟨hl, fun h => ?_⟩
    rcases h with ⟨k2, e, h⟩ | h
    · have h1 : (isC.map (fun i => wx[i]?))[k2]? = some (some (q.1, e)) := by rw [hC, List.getElem?_map, h]; rfl
      rw [List.getElem?_map] at h1
      cases hi : isC[k2]? with
      | none => rw [hi] at h1; cases h1
      | some i =>
        rw [hi] at h1
        have h2 : wx[i]? = some (q.1, e) := Option.some.inj h1
        have h3 := hD.1 k i q (q.1, e) hq h2 rfl
        subst h3
        exact hn (List.mem_of_getElem? hi)
    · omega
  refine ⟨fun k x hx => ?_, fun i j x y hx hy hxy => ?_, fun k x hx => ?_⟩
  · rcases mxA_spec hlen wx 0 k x hx with ⟨j, -, h2⟩ | ⟨h1, h2⟩
    · exact hP1 j x h2
    · obtain ⟨g1, g2⟩ := apart k x (by simpa using h1) h2
      exact (hP k x h2).kept (hk x.1 g1 g2)
  · rcases mxA_spec hlen wx 0 i x hx with ⟨i1, h1, h2⟩ | ⟨h1, h2⟩ <;> rcases mxA_spec hlen wx 0 j y hy with ⟨j1, h3, h4⟩ | ⟨h3, h4⟩
    · have h5 := hD1.1 i1 j1 x y h2 h4 hxy
      subst h5
      have h6 := h1.symm.trans h3
      simpa using h6
    · exact absurd (by rw [← hxy]; exact hD1.2 i1 x h2) (apart j y (by simpa using h3) h4).2
    · exact absurd (by rw [hxy]; exact hD1.2 j1 y h4) (apart i x (by simpa using h1) h2).2
    · exact hD.1 i j x y h2 h4 hxy
  · rcases mxA_spec hlen wx 0 k x hx with ⟨j, -, h2⟩ | ⟨h1, h2⟩
    · exact hF _ (hD1.2 j x h2)
    · exact hD.2 k x h2
theorem sub_map {ws ws' : va_W} {H : Heap} (h : va_P D vwCl ws H) (is : List Nat) (hs : is.map (fun i => ws[i]?) = ws'.map some) : va_P D vwCl ws' H := by
  intro k x hk
  have h1 : (is.map (fun i => ws[i]?))[k]? = some (some x) := by rw [hs, List.getElem?_map, hk]; rfl
  rw [List.getElem?_map] at h1
  cases hi : is[k]? with
  | none => rw [hi] at h1; cases h1
  | some i => rw [hi] at h1; exact h i x (Option.some.inj h1)
theorem QW_run {a : Array Value} {v : Option Value} {wx wc w1 : va_W} (hr : va_Run p l e R s m args below meth c H locs cells slots 0 0 (F0 m pc ls st) rest (QW D w1 (va_A wc H.size) v a) (va_A wc H.size)) (hS : va_S A s.heap H locs) (hP : va_P D vwCl wx H) (hD : va_D A wx) (isC : List Nat) (hC : isC.map (fun i => wx[i]?) = wc.map some) (hlen : w1.length = isC.length) (hF : ∀ q, va_A wc H.size q → A q)
    (kk : ∀ (H1 : Heap) (locs1 : List Loc), va_P D vwCl (mxA w1 isC 0 wx) H1 → va_D A (mxA w1 isC 0 wx) → va_S A s.heap H1 locs1 → W p l e R s m args below meth c H1 locs1 cells slots Q (F0 m (pc + 3) ls (v.toList ++ rest))) : W p l e R s m args below meth c H locs cells slots Q (F0 m pc ls st) := by
  intro T hT X
  obtain ⟨v, st₀, t, T', L, h0, X', hL, e1, e2, ⟨⟨hv, hP1, hD1⟩, hz, hk⟩, st⟩ := hr T hT X
  cases hv
  rw [h0] at hz hk
  obtain ⟨g1, g2⟩ := mx_join (H1 := T'.heap) hP hD isC hC hlen (fun q h1 h2 => by rw [e1]; exact hk q h1 h2) hF (by rw [e1]; exact hP1) hD1
  obtain ⟨t2, a1, b1⟩ := kk T'.heap (locs ++ L) g1 g2
    ⟨Nat.le_trans hS.1 (by rw [e1]; exact hz), fun q h1 h2 => by rw [e1, hk q (Nat.lt_of_lt_of_le h1 hS.1) (fun z => h2 (hF q z))]; exact hS.2.1 q h1 h2, fun q hq => by
      rcases List.mem_append.mp hq with h | h
      · exact hS.2.2 q h
      · exact hF _ (hL q h)⟩ T' rfl X'
  exact ⟨t2, st t2 a1, b1⟩
theorem rd_v (hx : p.tables.exec = Jvm.exec) (hb : c.code = cc) (hr : meth.sig.returnType = none) (hlocks : meth.locks = false) (hd : decode cc pc = .ok (.return_, 1)) :
    W p l e R s m args below meth c s.heap [] 0 0 (MQ below (QR none) args s 0 0 (fun _ => False)) (F0 m pc ls []) :=
  W.vret hx hb hr (fun t ht _ => ⟨rfl, ht⟩) (fun _ h => nomatch h) hd hlocks
theorem wrSv {wc wx w1 : va_W} (S : CallFix p m c cc nL s args Ts own) (hM : WR l y ws rm D z q As wc H.size w1 none) (cw : CallB R s args own index y bytes maxL ret ws rm 0 0 n ∧ (Cond.static y).before args s = true)
    (hE : EV D z q A s s.heap) (hS : va_S A s.heap H locs) (hA : ∀ x : Nat, s.heap.size ≤ x → A x) (hP : va_P D vwCl wx H) (hD : va_D A wx) (is : List Nat) (hs : is.map (fun i => wx[i]?) = wc.map some) (hnd : va_nd is = true) (hlen : w1.length = is.length)
    (hn : As.length = n) (hsz : ls.size = nL) (hst : st = As.reverse ++ rest) (hW : (rest.map fun v => v.category).sum ≤ 8) (hdg : decode cc pc = .ok (.invokestatic index, 3)) (hf : cells + 0 ≤ R.cells ∧ slots + 0 ≤ R.slots)
    (kk : ∀ (H1 : Heap) (locs1 : List Loc), va_P D vwCl (mxA w1 is 0 wx) H1 → va_D A (mxA w1 is 0 wx) → va_S A s.heap H1 locs1 → W p l e R s m args below meth c H1 locs1 cells slots Q (F0 m (pc + 3) ls rest)) : W p l e R s m args below meth c H locs cells slots Q (F0 m pc ls st) := by
  have hPc := sub_map hP is hs
  have hDc := hD.sub is hnd hs
  have hFc := va_free hD hS hA is hs
  refine QW_run (va_runS S hM cw ⟨WP_blind, fun U hU hW => ⟨rfl, WP_of (wx := wx) hE hS hPc hDc hFc hU hW⟩⟩ rfl hn hsz hst (lv_room hW) hdg hf) hS hP hD is hs hlen hFc kk
/-- a call with any end, the callee's cells put back at their places -/
theorem QT_runM {S : Type} {val : S → Option Value} {post : S → Prop} {w1 : S → va_W} {a : Array Value} {wx wc : va_W} {mc ms : Nat} (hr : va_Run p l e R s m args below meth c H locs cells slots mc ms (F0 m pc ls st) rest (QT D (va_A wc H.size) val post w1 a) (va_A wc H.size)) (hS : va_S A s.heap H locs) (hP : va_P D vwCl wx H) (hD : va_D A wx) (isC : List Nat) (hC : isC.map (fun i => wx[i]?) = wc.map some) (hlen : ∀ u, (w1 u).length = isC.length) (hF : ∀ q, va_A wc H.size q → A q)
    (kk : ∀ (u : S) (H1 : Heap) (locs1 : List Loc), post u → va_P D vwCl (mxA (w1 u) isC 0 wx) H1 → va_D A (mxA (w1 u) isC 0 wx) → va_S A s.heap H1 locs1 → W p l e R s m args below meth c H1 locs1 (cells + mc) (slots + ms) Q (F0 m (pc + 3) ls ((val u).toList ++ rest))) : W p l e R s m args below meth c H locs cells slots Q (F0 m pc ls st) := by
  intro T hT X
  obtain ⟨v, st₀, t, T', L, h0, X', hL, e1, e2, ⟨⟨u, hv, hpo, hP1, hD1⟩, hz, hk⟩, st⟩ := hr T hT X
  cases hv
  rw [h0] at hz hk
  obtain ⟨g1, g2⟩ := mx_join (H1 := T'.heap) hP hD isC hC (hlen u) (fun q h1 h2 => by rw [e1]; exact hk q h1 h2) hF (by rw [e1]; exact hP1) hD1
  obtain ⟨t2, a1, b1⟩ := kk u T'.heap (locs ++ L) hpo g1 g2
    ⟨Nat.le_trans hS.1 (by rw [e1]; exact hz), fun q h1 h2 => by rw [e1, hk q (Nat.lt_of_lt_of_le h1 hS.1) (fun z => h2 (hF q z))]; exact hS.2.1 q h1 h2, fun q hq => by
      rcases List.mem_append.mp hq with h | h
      · exact hS.2.2 q h
      · exact hF _ (hL q h)⟩ T' rfl X'
  exact ⟨t2, st t2 a1, b1⟩
/-- a call with any end that makes cells: the caller's other cells, then the callee's -/
theorem QT_runJ {S : Type} {val : S → Option Value} {post : S → Prop} {w1 : S → va_W} {a : Array Value} {wx wc wr : va_W} {mc ms : Nat} (hr : va_Run p l e R s m args below meth c H locs cells slots mc ms (F0 m pc ls st) rest (QT D (va_A wc H.size) val post w1 a) (va_A wc H.size)) (hS : va_S A s.heap H locs) (hP : va_P D vwCl wx H) (hD : va_D A wx) (isC isR : List Nat) (hC : isC.map (fun i => wx[i]?) = wc.map some) (hR : isR.map (fun i => wx[i]?) = wr.map some) (hn : va_nd isR = true) (hdis : ∀ i ∈ isR, i ∉ isC) (hF : ∀ q, va_A wc H.size q → A q)
    (kk : ∀ (u : S) (H1 : Heap) (locs1 : List Loc), post u → va_P D vwCl (wr ++ w1 u) H1 → va_D A (wr ++ w1 u) → va_S A s.heap H1 locs1 → W p l e R s m args below meth c H1 locs1 (cells + mc) (slots + ms) Q (F0 m (pc + 3) ls ((val u).toList ++ rest))) : W p l e R s m args below meth c H locs cells slots Q (F0 m pc ls st) := by
  intro T hT X
  obtain ⟨v, st₀, t, T', L, h0, X', hL, e1, e2, ⟨⟨u, hv, hpo, hP1, hD1⟩, hz, hk⟩, st⟩ := hr T hT X
  cases hv
  rw [h0] at hz hk
  obtain ⟨g1, g2⟩ := va_join (H1 := T'.heap) hP hD isC isR hC hR hn hdis (fun q h1 h2 => by rw [e1]; exact hk q h1 h2) hF (by rw [e1]; exact hP1) hD1
  obtain ⟨t2, a1, b1⟩ := kk u T'.heap (locs ++ L) hpo g1 g2
    ⟨Nat.le_trans hS.1 (by rw [e1]; exact hz), fun q h1 h2 => by rw [e1, hk q (Nat.lt_of_lt_of_le h1 hS.1) (fun z => h2 (hF q z))]; exact hS.2.1 q h1 h2, fun q hq => by
      rcases List.mem_append.mp hq with h | h
      · exact hS.2.2 q h
      · exact hF _ (hL q h)⟩ T' rfl X'
  exact ⟨t2, st t2 a1, b1⟩
/-- a constructor's call -/
theorem qtI {S : Type} {post : S → Prop} {w1 : S → va_W} {wx wc wr : va_W} {mc ms : Nat} (S0 : CallFix p m c cc nL s args Ts own) (hM : Met l y ws rm (va_Pc (.ref b :: As) (WP D z q wc H.size)) (QT D (va_A wc H.size) (fun _ => none) post w1) mc ms (va_A wc H.size)) (cw : CallB R s args own index y bytes maxL none ws rm mc ms n ∧ y.name = "<init>" ∧ (Cond.instanceMethod y).before args s = true)
    (hE : EV D z q A s s.heap) (hS : va_S A s.heap H locs) (hA : ∀ x : Nat, s.heap.size ≤ x → A x) (hP : va_P D vwCl wx H) (hD : va_D A wx) (is isR : List Nat) (hs : is.map (fun i => wx[i]?) = wc.map some) (hnd : va_nd is = true) (hR : isR.map (fun i => wx[i]?) = wr.map some) (hnr : va_nd isR = true) (hdis : ∀ i ∈ isR, i ∉ is)
    (hn : As.length = n) (hsz : ls.size = nL) (hst : st = As.reverse ++ .ref b :: rest) (hW : (rest.map fun v => v.category).sum ≤ 8) (hdg : decode cc pc = .ok (.invokespecial index, 3)) (hf : cells + mc ≤ R.cells ∧ slots + ms ≤ R.slots)
    (kk : ∀ (u : S) (H1 : Heap) (locs1 : List Loc), post u → va_P D vwCl (wr ++ w1 u) H1 → va_D A (wr ++ w1 u) → va_S A s.heap H1 locs1 → W p l e R s m args below meth c H1 locs1 (cells + mc) (slots + ms) Q (F0 m (pc + 3) ls rest)) : W p l e R s m args below meth c H locs cells slots Q (F0 m pc ls st) := by
  have hPc := sub_map hP is hs
  have hDc := hD.sub is hnd hs
  have hFc := va_free hD hS hA is hs
  refine QT_runJ (va_runI S0 hM cw ⟨WP_blind, fun U hU hW => ⟨rfl, WP_of (wx := wx) hE hS hPc hDc hFc hU hW⟩⟩ rfl hn hsz hst (lv_room hW) hdg hf) hS hP hD is isR hs hR hnr hdis hFc kk
/-- a private constructor of a nest mate -/
theorem qtIN {S : Type} {host : String} {post : S → Prop} {w1 : S → va_W} {wx wc wr : va_W} {mc ms : Nat} (S0 : CallFix p m c cc nL s args Ts own) (hM : Met l y ws rm (va_Pc (.ref b :: As) (WP D z q wc H.size)) (QT D (va_A wc H.size) (fun _ => none) post w1) mc ms (va_A wc H.size)) (cw : va_CN R s args own index y host bytes maxL none ws rm mc ms n ∧ y.name = "<init>" ∧ (Cond.instanceMethod y).before args s = true)
    (hE : EV D z q A s s.heap) (hS : va_S A s.heap H locs) (hA : ∀ x : Nat, s.heap.size ≤ x → A x) (hP : va_P D vwCl wx H) (hD : va_D A wx) (is isR : List Nat) (hs : is.map (fun i => wx[i]?) = wc.map some) (hnd : va_nd is = true) (hR : isR.map (fun i => wx[i]?) = wr.map some) (hnr : va_nd isR = true) (hdis : ∀ i ∈ isR, i ∉ is)
    (hn : As.length = n) (hsz : ls.size = nL) (hst : st = As.reverse ++ .ref b :: rest) (hW : (rest.map fun v => v.category).sum ≤ 8) (hdg : decode cc pc = .ok (.invokespecial index, 3)) (hf : cells + mc ≤ R.cells ∧ slots + ms ≤ R.slots)
    (kk : ∀ (u : S) (H1 : Heap) (locs1 : List Loc), post u → va_P D vwCl (wr ++ w1 u) H1 → va_D A (wr ++ w1 u) → va_S A s.heap H1 locs1 → W p l e R s m args below meth c H1 locs1 (cells + mc) (slots + ms) Q (F0 m (pc + 3) ls rest)) : W p l e R s m args below meth c H locs cells slots Q (F0 m pc ls st) := by
  have hPc := sub_map hP is hs
  have hDc := hD.sub is hnd hs
  have hFc := va_free hD hS hA is hs
  refine QT_runJ (va_runIN S0 hM cw ⟨WP_blind, fun U hU hW => ⟨rfl, WP_of (wx := wx) hE hS hPc hDc hFc hU hW⟩⟩ rfl hn hsz hst (lv_room hW) hdg hf) hS hP hD is isR hs hR hnr hdis hFc kk
theorem ty_same {s : State} {z : Nat → ClassId} {cA : ClassId} {ty : FieldType} {k : Nat} (hK : va_K D vwCl (TY z ++ [(cA, ty)]) s) (hk : (TY z)[k]? = some (z k, ty)) (ho : ∀ C : String, ty ≠ .object C) : cA = z k := by
  have h1 : (TY z ++ [(cA, ty)])[k]? = some (z k, ty) := by
    rw [List.getElem?_append_left (List.getElem?_eq_some_iff.mp hk).1]; exact hk
  have h2 := (hK.2 k _ h1).2
  have h3 := (hK.2 3 (cA, ty) rfl).2
  cases ty <;> first | exact absurd rfl (ho _) | exact (Option.some.inj (h3.symm.trans h2))
/-- a new array of ints, of booleans, of longs -/
theorem newI {H0 : Heap} {ws : va_W} (hx : p.tables.exec = Jvm.exec) (hb : c.code = cc) (harr : (Cond.arrayClass .int).before args s = true) (hE : va_K D vwCl (TY z) s) (hP : va_P D vwCl ws H) (hD : va_D A ws) (hS : va_S A H0 H locs) (hA : ∀ q, H0.size ≤ q → A q)
    {n : Int32} {N' : Nat} (hn : ¬ n < 0) (hN : n.toNatClampNeg = N') (hbytes : N' * 4 ≤ 536870912) (hcells : cells + 1 ≤ R.cells) (hslots : slots + N' ≤ R.slots) (hdg : decode cc pc = .ok (.newarray .int, 2))
    (kk : ∀ (a : Nat) (H1 : Heap), va_P D vwCl (ws ++ [(a, .inl (z 0, N', .inl (fun _ => 0)))]) H1 → va_D A (ws ++ [(a, .inl (z 0, N', .inl (fun _ => 0)))]) → va_S A H0 H1 locs → W p l e R s m args below meth c H1 locs (cells + 1) (slots + N') Q (F0 m (pc + 2) ls (.ref a :: rest))) : W p l e R s m args below meth c H locs cells slots Q (F0 m pc ls (.int n :: rest)) := by
  refine va_newa (atype := .int) (ty := .int) (a0 := (N', .inl (fun _ => 0))) hx hb harr rfl hE hP hD hS hA (fun _ => rfl) hn hN hbytes hcells hslots hdg (fun a cA H1 hK1 hP1 hD1 hS1 => ?_)
  obtain rfl : cA = z 0 := ty_same (k := 0) hK1 rfl (fun _ h => by cases h)
  exact kk a H1 hP1 hD1 hS1
theorem newZ {H0 : Heap} {ws : va_W} (hx : p.tables.exec = Jvm.exec) (hb : c.code = cc) (harr : (Cond.arrayClass .boolean).before args s = true) (hE : va_K D vwCl (TY z) s) (hP : va_P D vwCl ws H) (hD : va_D A ws) (hS : va_S A H0 H locs) (hA : ∀ q, H0.size ≤ q → A q)
    {n : Int32} {N' : Nat} (hn : ¬ n < 0) (hN : n.toNatClampNeg = N') (hbytes : N' * 1 ≤ 536870912) (hcells : cells + 1 ≤ R.cells) (hslots : slots + N' ≤ R.slots) (hdg : decode cc pc = .ok (.newarray .boolean, 2))
    (kk : ∀ (a : Nat) (H1 : Heap), va_P D vwCl (ws ++ [(a, .inl (z 1, N', .inl (fun _ => 0)))]) H1 → va_D A (ws ++ [(a, .inl (z 1, N', .inl (fun _ => 0)))]) → va_S A H0 H1 locs → W p l e R s m args below meth c H1 locs (cells + 1) (slots + N') Q (F0 m (pc + 2) ls (.ref a :: rest))) : W p l e R s m args below meth c H locs cells slots Q (F0 m pc ls (.int n :: rest)) := by
  refine va_newa (atype := .boolean) (ty := .boolean) (a0 := (N', .inl (fun _ => 0))) hx hb harr rfl hE hP hD hS hA (fun _ => rfl) hn hN hbytes hcells hslots hdg (fun a cA H1 hK1 hP1 hD1 hS1 => ?_)
  obtain rfl : cA = z 1 := ty_same (k := 1) hK1 rfl (fun _ h => by cases h)
  exact kk a H1 hP1 hD1 hS1
theorem newJ {H0 : Heap} {ws : va_W} (hx : p.tables.exec = Jvm.exec) (hb : c.code = cc) (harr : (Cond.arrayClass .long).before args s = true) (hE : va_K D vwCl (TY z) s) (hP : va_P D vwCl ws H) (hD : va_D A ws) (hS : va_S A H0 H locs) (hA : ∀ q, H0.size ≤ q → A q)
    {n : Int32} {N' : Nat} (hn : ¬ n < 0) (hN : n.toNatClampNeg = N') (hbytes : N' * 8 ≤ 536870912) (hcells : cells + 1 ≤ R.cells) (hslots : slots + N' ≤ R.slots) (hdg : decode cc pc = .ok (.newarray .long, 2))
    (kk : ∀ (a : Nat) (H1 : Heap), va_P D vwCl (ws ++ [(a, .inl (z 2, N', .inr (.inl (fun _ => 0))))]) H1 → va_D A (ws ++ [(a, .inl (z 2, N', .inr (.inl (fun _ => 0))))]) → va_S A H0 H1 locs → W p l e R s m args below meth c H1 locs (cells + 1) (slots + N') Q (F0 m (pc + 2) ls (.ref a :: rest))) : W p l e R s m args below meth c H locs cells slots Q (F0 m pc ls (.int n :: rest)) := by
  refine va_newa (atype := .long) (ty := .long) (a0 := (N', .inr (.inl (fun _ => 0)))) hx hb harr rfl hE hP hD hS hA (fun _ => rfl) hn hN hbytes hcells hslots hdg (fun a cA H1 hK1 hP1 hD1 hS1 => ?_)
  obtain rfl : cA = z 2 := ty_same (k := 2) hK1 rfl (fun _ h => by cases h)
  exact kk a H1 hP1 hD1 hS1
theorem lpx {a : Int32} {n j : Nat} (c : a ≤ nI j) (hj : j ≤ n) (hn : n < 2 ^ 31) (ha : a = nI n) : j = n := by
  subst ha
  have := (nI_leI hn (Nat.lt_of_le_of_lt hj hn)).mp c
  omega
theorem lpn {a : Int32} {n j : Nat} (c : ¬ a ≤ nI j) (hj : j ≤ n) (hn : n < 2 ^ 31) (ha : a = nI n) : j < n := by
  subst ha
  have h2 : ¬ n ≤ j := fun h => c ((nI_leI hn (Nat.lt_of_le_of_lt hj hn)).mpr h)
  omega
theorem in_of {i : Int32} {n : Nat} (hn : n < 2 ^ 31) (h1 : ¬ i < 0) (h2 : ¬ nI n ≤ i) : vp_in i n := by
  rcases pk_ix i hn with h | h | ⟨j, hj, rfl⟩
  · exact absurd h h1
  · exact absurd h h2
  · exact vp_in_nI hj hn
theorem wrVv {wc wx w1 : va_W} {ci : Nat} {fs : List Value} {kq : vw_C} (S : CallFix p m c cc nL s args Ts own) (hM : WR l y ws rm D z q (.ref b :: As) wc H.size w1 none) (cw : CallW R s args own C index y bytes maxL ret ws rm 0 0 n)
    (hE : EV D z q A s s.heap) (hS : va_S A s.heap H locs) (hA : ∀ x : Nat, s.heap.size ≤ x → A x) (hP : va_P D vwCl wx H) (hD : va_D A wx) (is : List Nat) (hs : is.map (fun i => wx[i]?) = wc.map some) (hnd : va_nd is = true) (hlen : w1.length = is.length) (he : wc[0]? = some (b, .inr (ci, fs))) (hc : vwCl[ci]? = some kq) (hC : kq.1 = C)
    (hn : As.length = n) (hsz : ls.size = nL) (hst : st = As.reverse ++ .ref b :: rest) (hW : (rest.map fun v => v.category).sum ≤ 8) (hdg : decode cc pc = .ok (.invokevirtual index, 3)) (hf : cells + 0 ≤ R.cells ∧ slots + 0 ≤ R.slots)
    (kk : ∀ (H1 : Heap) (locs1 : List Loc), va_P D vwCl (mxA w1 is 0 wx) H1 → va_D A (mxA w1 is 0 wx) → va_S A s.heap H1 locs1 → W p l e R s m args below meth c H1 locs1 cells slots Q (F0 m (pc + 3) ls rest)) : W p l e R s m args below meth c H locs cells slots Q (F0 m pc ls st) := by
  have hPc := sub_map hP is hs
  have hDc := hD.sub is hnd hs
  have hFc := va_free hD hS hA is hs
  refine QW_run (va_runV S hM cw ⟨WP_blind, by subst hC; exact va_recv hE.1 hPc hc he, fun U hU hW => ⟨rfl, WP_of (wx := wx) hE hS hPc hDc hFc hU hW⟩⟩ rfl hn hsz hst (lv_room hW) hdg hf) hS hP hD is hs hlen hFc kk
theorem wrVi {wc wx w1 : va_W} {x : Int32} {ci : Nat} {fs : List Value} {kq : vw_C} (S : CallFix p m c cc nL s args Ts own) (hM : WR l y ws rm D z q (.ref b :: As) wc H.size w1 (some (.int x))) (cw : CallW R s args own C index y bytes maxL ret ws rm 0 0 n)
    (hE : EV D z q A s s.heap) (hS : va_S A s.heap H locs) (hA : ∀ x : Nat, s.heap.size ≤ x → A x) (hP : va_P D vwCl wx H) (hD : va_D A wx) (is : List Nat) (hs : is.map (fun i => wx[i]?) = wc.map some) (hnd : va_nd is = true) (hlen : w1.length = is.length) (he : wc[0]? = some (b, .inr (ci, fs))) (hc : vwCl[ci]? = some kq) (hC : kq.1 = C)
    (hn : As.length = n) (hsz : ls.size = nL) (hst : st = As.reverse ++ .ref b :: rest) (hW : (rest.map fun v => v.category).sum ≤ 8) (hdg : decode cc pc = .ok (.invokevirtual index, 3)) (hf : cells + 0 ≤ R.cells ∧ slots + 0 ≤ R.slots)
    (kk : ∀ (H1 : Heap) (locs1 : List Loc), va_P D vwCl (mxA w1 is 0 wx) H1 → va_D A (mxA w1 is 0 wx) → va_S A s.heap H1 locs1 → W p l e R s m args below meth c H1 locs1 cells slots Q (F0 m (pc + 3) ls (.int x :: rest))) : W p l e R s m args below meth c H locs cells slots Q (F0 m pc ls st) := by
  have hPc := sub_map hP is hs
  have hDc := hD.sub is hnd hs
  have hFc := va_free hD hS hA is hs
  refine QW_run (va_runV S hM cw ⟨WP_blind, by subst hC; exact va_recv hE.1 hPc hc he, fun U hU hW => ⟨rfl, WP_of (wx := wx) hE hS hPc hDc hFc hU hW⟩⟩ rfl hn hsz hst (lv_room hW) hdg hf) hS hP hD is hs hlen hFc kk
end COMB
end
section
/-! ===== what the parts of the class compute ===== -/
def cAt (n : Nat) (f : Nat → Int32) (i : Int32) : Int32 := if i < 0 then -1 else if nI n ≤ i then -1 else f i.toNatClampNeg
def cSet (n : Nat) (f : Nat → Int32) (i x : Int32) : Nat → Int32 := if i < 0 then f else if nI n ≤ i then f else upd f i.toNatClampNeg x
def fFill (f : Nat → Int32) (x : Int32) (j : Nat) : Nat → Int32 := fun k => if k < j then x else f k
theorem fFill_0 (f : Nat → Int32) (x : Int32) : fFill f x 0 = f := by funext k; simp [fFill]
theorem fFill_s (f : Nat → Int32) (x : Int32) (j : Nat) : upd (fFill f x j) j x = fFill f x (j + 1) := by
  funext k
  by_cases h : k = j
  · subst h; rw [pk_us]; simp [fFill]
  · rw [pk_un h]; by_cases h2 : k < j
    · simp [fFill, h2, Nat.lt_succ_of_lt h2]
    · have h3 : ¬ k < j + 1 := by omega
      simp [fFill, h2, h3]
def bCol (pl : Nat → Int32) (i : Int32) : Int32 := cAt 26 pl i - cAt 26 pl i / 10 * 10
def bRow (pl : Nat → Int32) (i : Int32) : Int32 := cAt 26 pl i / 10
def bFin (pl : Nat → Int32) (i : Int32) : Int32 := if bCol pl i < 0 then -1 else if 10 ≤ bCol pl i then -1 else fingT (bCol pl i).toNatClampNeg
def iAbs (x : Int32) : Int32 := if 0 ≤ x then x else 0 - x
def bTouch (pl : Nat → Int32) (i j : Int32) : Int32 := if 1 < iAbs (bCol pl i - bCol pl j) then 0 else if 1 < iAbs (bRow pl i - bRow pl j) then 0 else 1
def bMir (pl lo : Nat → Int32) (i : Int32) : Int32 := cAt 30 lo (bRow pl i * 10 + 10 - 1 - bCol pl i)
def bMovL (pl lo : Nat → Int32) (i x : Int32) : Nat → Int32 := cSet 30 (cSet 30 lo (cAt 26 pl i) (cAt 30 lo x)) x i
def bMovP (pl lo : Nat → Int32) (i x : Int32) : Nat → Int32 := cSet 26 (if cAt 30 lo x = -1 then pl else cSet 26 pl (cAt 30 lo x) (cAt 26 pl i)) i x
theorem cAt_nI {n j : Nat} (f : Nat → Int32) (hj : j < n) (hn : n < 2 ^ 31) : cAt n f (nI j) = f j := by
  have h1 : ¬ nI j < 0 := nI_pos (Nat.lt_trans hj hn)
  have h2 : ¬ nI n ≤ nI j := fun h => by have := (nI_leI hn (Nat.lt_trans hj hn)).mp h; omega
  simp only [cAt, h1, h2, ↓reduceIte]
  rw [nI_clamp (Nat.lt_trans hj hn)]
theorem cSet_nI {n j : Nat} (f : Nat → Int32) (x : Int32) (hj : j < n) (hn : n < 2 ^ 31) : cSet n f (nI j) x = upd f j x := by
  have h1 : ¬ nI j < 0 := nI_pos (Nat.lt_trans hj hn)
  have h2 : ¬ nI n ≤ nI j := fun h => by have := (nI_leI hn (Nat.lt_trans hj hn)).mp h; omega
  simp only [cSet, h1, h2, ↓reduceIte]
  rw [nI_clamp (Nat.lt_trans hj hn)]
def fAged (t mo : Int32) : Int32 := (3 * t + mo) / 4
def fPair (i j : Int32) : Int32 := i * 26 + j
def fShr (s w : Int32) : Int32 := (7 * s + (if w = 0 then 0 else 10000)) / 8
def fGood (ct ti sh : Nat → Int32) (wt wh i : Int32) : Int32 := if cAt 26 ct i < 3 then 0 else if wt < cAt 26 ti i then 0 else if wh < cAt 26 sh i then 0 else 1
def fOut (ct sh : Nat → Int32) (i : Int32) : Int32 := if cAt 26 ct i < 3 then 0 else if cAt 26 sh i ≤ 5000 then 0 else 1
def fWeak (ti sh : Nat → Int32) (i j : Int32) : Int32 := if cAt 26 sh i = cAt 26 sh j then (if cAt 26 ti i ≤ cAt 26 ti j then 0 else 1) else (if cAt 26 sh i ≤ cAt 26 sh j then 0 else 1)
def fHalf (ct : Nat → Int32) (j : Nat) : Nat → Int32 := fun k => if k < j then ct k / 2 else ct k
theorem fHalf_0 (ct : Nat → Int32) : fHalf ct 0 = ct := by funext k; simp [fHalf]
theorem fHalf_s (ct : Nat → Int32) {j : Nat} (hj : j < 26) : cSet 26 (fHalf ct j) (nI j) (cAt 26 (fHalf ct j) (nI j) / 2) = fHalf ct (j + 1) := by
  rw [cAt_nI _ hj (Nat.le_of_ble_eq_true rfl), cSet_nI _ _ hj (Nat.le_of_ble_eq_true rfl)]
  funext k
  by_cases h : k = j
  · subst h; rw [pk_us]; simp [fHalf]
  · rw [pk_un h]; by_cases h2 : k < j
    · simp [fHalf, h2, Nat.lt_succ_of_lt h2]
    · have h3 : ¬ k < j + 1 := by omega
      simp [fHalf, h2, h3]
def tFull (zz : Int32) : Int32 := if zz < 40 then 0 else 1
def tAt (lt : Nat → Int32) (zz i : Int32) : Int32 := if zz ≤ i then -1 else cAt 40 lt i
def tRight (lt ty : Nat → Int32) : Nat → Int32
  | 0 => 0
  | j + 1 => if cAt 40 ty (nI j) = cAt 40 lt (nI j) then tRight lt ty j + 1 else tRight lt ty j
def tSpeed (lt ty : Nat → Int32) (ps : Nat) (ml : Int32) : Int32 := if 0 < ml then tRight lt ty ps * 60000 / ml else 0
def pFull (zz : Int32) : Int32 := if zz < 100 then 0 else 1
def pFall (kp : Nat → Int32) : Nat → Nat
  | 0 => 0
  | k + 1 => if cAt 100 kp (nI (k + 1)) < cAt 100 kp (nI k) then pFall kp k + 1 else 0
def lIn (ia : Nat → Int32) (i : Int32) : Int32 := if i < 0 then 0 else if 26 ≤ i then 0 else if ia i.toNatClampNeg = 0 then 0 else 1
def lWk (ia ti sh : Nat → Int32) : Nat → Int32
  | 0 => 0
  | j + 1 => if lIn ia (nI (j + 1)) = 0 then lWk ia ti sh j else if fWeak ti sh (nI (j + 1)) (lWk ia ti sh j) = 0 then lWk ia ti sh j else nI (j + 1)
def lSb (ia pr : Nat → Int32) (b : Int32) : Nat → Int32 × Int32
  | 0 => (-1, -1)
  | j + 1 => if lIn ia (nI j) = 0 then lSb ia pr b j else if nI j = b then lSb ia pr b j else if cAt 676 pr (fPair b (nI j)) ≤ (lSb ia pr b j).2 then lSb ia pr b j else (nI j, cAt 676 pr (fPair b (nI j)))
/-- which letters are taken out, and what that leaves -/
def lGo (ia ct sh : Nat → Int32) (k : Nat) : Bool := decide (¬ lIn ia (nI k) = 0) && decide (¬ fOut ct sh (nI k) = 0)
def lMsk (o : Nat → Bool) (j : Nat) (f : Nat → Int32) (x : Int32) : Nat → Int32 := fun k => if (4 ≤ k ∧ k < j) ∧ o k = true then x else f k
def lAny (o : Nat → Bool) : Nat → Int32
  | 0 => 0
  | j + 1 => if 4 ≤ j ∧ o j = true then 1 else lAny o j
abbrev lAll (ia ct ti sh : Nat → Int32) (wt wh : Int32) : Prop := ∀ k, k < 26 → lIn ia (nI k) = 0 ∨ ¬ fGood ct ti sh wt wh (nI k) = 0
def lFst (o : Nat → Bool) : Nat → Nat → Nat
  | 0, i => i
  | f + 1, i => if o i = true then i else lFst o f (i + 1)
def lNew (ia : Nat → Int32) : Nat := lFst (fun k => decide (lIn ia (nI k) = 0)) 26 0
def lLetV (ia : Nat → Int32) : Int32 := if lNew ia < 26 then nI (lNew ia) else -1
def lLetI (ia : Nat → Int32) : Nat → Int32 := if lNew ia < 26 then upd ia (lNew ia) 1 else ia
def lAgI (ia ct ti sh : Nat → Int32) (wt wh : Int32) : Int32 := if lAll ia ct ti sh wt wh then 1 else 0
abbrev lM1 (ia ct sh f : Nat → Int32) (x : Int32) : Nat → Int32 := lMsk (lGo ia ct sh) 26 f x
def lRevV (ia ct ti sh : Nat → Int32) (wt wh : Int32) : Int32 := if lAny (lGo ia ct sh) 26 = 0 then (if lAgI (lM1 ia ct sh ia 0) (lM1 ia ct sh ct 0) (lM1 ia ct sh ti 400) (lM1 ia ct sh sh 0) wt wh = 0 then -1 else lLetV (lM1 ia ct sh ia 0)) else -1
def lRevI (ia ct ti sh : Nat → Int32) (wt wh : Int32) : Nat → Int32 := if lAny (lGo ia ct sh) 26 = 0 then (if lAgI (lM1 ia ct sh ia 0) (lM1 ia ct sh ct 0) (lM1 ia ct sh ti 400) (lM1 ia ct sh sh 0) wt wh = 0 then lM1 ia ct sh ia 0 else lLetI (lM1 ia ct sh ia 0)) else lM1 ia ct sh ia 0
end
section
/-! ===== Cells and Board ===== -/
set_option maxRecDepth 20000 in
theorem in_X1_at_X1 : ∀ w ∈ wsX10, w ∈ wsX1_at := mem_r _ [2] (by decide +kernel)
theorem hd_X1_at : yX1_at.cls = RX1 ∧ yX1_at.cls ≠ "java/lang/invoke/MethodHandle" ∧ yX1_at.cls ≠ "java/lang/invoke/VarHandle" ∧ (parseMethodDescriptor yX1_at.desc).map (fun d => d.parameters.length) = some 1 := by decide +kernel
set_option maxHeartbeats 4000000 in
set_option maxRecDepth 100000 in
theorem c_X1_at (l : Launch) (D : va_G) (z : Nat → ClassId) (q : Nat → Nat) (h : Nat) (v : Nat) (n : Nat) (f : Nat → Int32) (i : Int32) (hn : n < 2 ^ 31) : RD l yX1_at wsX1_at ({ frames := 0, cells := 0, slots := 0, locals := 0 } : Room) D z q [.ref h, .int i] [(h, .inr (1, [.ref v])), (v, .inl (z 0, n, .inl f))] (some (.int (cAt n f i))) := by
  refine RD_mk (cc := cX1_at) (maxL := 2) (ret := (some .int)) (by decide) rfl (Nat.le_of_ble_eq_true rfl) ?_
  intro p e s m below meth c hx hb hr hml hts hown hlocks hP hE hS hA ls hl
  have hK := hE.1
  have hown : s.vm.findClass RX1 = some m.cls := hown
  have hl : lv_has ls 2 [(0, .ref h), (1, .int i)] := hl
  refine lv_iload_n hx hb dX1_at_0 rfl (lv_at hl 1 rfl) ?_
  refine lv_if_lt (tgt := 22) hx hb dX1_at_1 (by decide) (fun c_1 => ?_) (fun c_1 => ?_)
  · refine lv_iconst (v := (-1)) hx hb dX1_at_22 (by decide) ?_
    exact rd_i hx hb hr hlocks dX1_at_23 (by simp only [cAt, if_pos c_1, ↓reduceIte])
  · refine lv_iload_n hx hb dX1_at_4 rfl (lv_at hl 1 rfl) ?_
    refine lv_aload_n hx hb dX1_at_5 rfl (lv_at hl 0 rfl) ?_
    refine va_get (D := D) (ci := 1) (v := .ref v) (C := RX1) (T := TX1) (N := 1) hx hb hts in_X1_at_X1 hown hK hP 0 rfl rfl 0 (by decide) (hts (.fieldLink RX1 15 "TypingCoach$Cells" "values" "[I") (List.mem_of_getElem? (i := 1) rfl)) (fun _ h9 => h9) rfl dX1_at_6 ?_
    refine va_alen (v := nI n) hx hb hK hP 1 0 rfl rfl rfl dX1_at_9 ?_
    refine lv_icmp_ge (tgt := 22) hx hb dX1_at_10 (by decide) (fun c_2 => ?_) (fun c_2 => ?_)
    · refine lv_iconst (v := (-1)) hx hb dX1_at_22 (by decide) ?_
      exact rd_i hx hb hr hlocks dX1_at_23 (by simp only [cAt, if_neg c_1, if_pos c_2, ↓reduceIte])
    · refine lv_aload_n hx hb dX1_at_13 rfl (lv_at hl 0 rfl) ?_
      refine va_get (D := D) (ci := 1) (v := .ref v) (C := RX1) (T := TX1) (N := 1) hx hb hts in_X1_at_X1 hown hK hP 0 rfl rfl 0 (by decide) (hts (.fieldLink RX1 15 "TypingCoach$Cells" "values" "[I") (List.mem_of_getElem? (i := 1) rfl)) (fun _ h9 => h9) rfl dX1_at_14 ?_
      refine lv_iload_n hx hb dX1_at_17 rfl (lv_at hl 1 rfl) ?_
      refine va_iald hx hb hK hP 1 0 rfl rfl (in_of hn c_1 c_2) dX1_at_18 ?_
      refine lv_goto (tgt := 23) hx hb dX1_at_19 (by decide) ?_
      exact rd_i hx hb hr hlocks dX1_at_23 (by simp only [cAt, if_neg c_1, if_neg c_2, ↓reduceIte])
set_option maxRecDepth 20000 in
theorem in_X1_set_X1 : ∀ w ∈ wsX10, w ∈ wsX1_set := mem_r _ [2] (by decide +kernel)
theorem hd_X1_set : yX1_set.cls = RX1 ∧ yX1_set.cls ≠ "java/lang/invoke/MethodHandle" ∧ yX1_set.cls ≠ "java/lang/invoke/VarHandle" ∧ (parseMethodDescriptor yX1_set.desc).map (fun d => d.parameters.length) = some 2 := by decide +kernel
set_option maxHeartbeats 4000000 in
set_option maxRecDepth 100000 in
theorem c_X1_set (l : Launch) (D : va_G) (z : Nat → ClassId) (q : Nat → Nat) (h : Nat) (v : Nat) (n : Nat) (f : Nat → Int32) (i : Int32) (x : Int32) (sz : Nat) (hn : n < 2 ^ 31) : WR l yX1_set wsX1_set ({ frames := 0, cells := 0, slots := 0, locals := 0 } : Room) D z q [.ref h, .int i, .int x] [(h, .inr (1, [.ref v])), (v, .inl (z 0, n, .inl f))] sz [(h, .inr (1, [.ref v])), (v, .inl (z 0, n, .inl (cSet n f i x)))] none := by
  refine WR_mk (Qc := fun A => QW D [(h, .inr (1, [.ref v])), (v, .inl (z 0, n, .inl (cSet n f i x)))] A none) (cc := cX1_set) (maxL := 3) (ret := none) (by decide) rfl (Nat.le_of_ble_eq_true rfl) ?_
  intro p e s m below meth c A hx hb hr hml hts hown hlocks hin0 H hP hD hE hS hA ls hl
  have hK := hE.1
  have hown : s.vm.findClass RX1 = some m.cls := hown
  have hl : lv_has ls 3 [(0, .ref h), (1, .int i), (2, .int x)] := hl
  refine lv_iload_n hx hb dX1_set_0 rfl (lv_at hl 1 rfl) ?_
  refine lv_if_lt (tgt := 20) hx hb dX1_set_1 (by decide) (fun c_1 => ?_) (fun c_1 => ?_)
  · exact wr_v hx hb hr hlocks hP hD hS dX1_set_20 (by simp only [cSet, if_pos c_1, ↓reduceIte]) (Nat.le_refl _) (Nat.le_refl _)
  · refine lv_iload_n hx hb dX1_set_4 rfl (lv_at hl 1 rfl) ?_
    refine lv_aload_n hx hb dX1_set_5 rfl (lv_at hl 0 rfl) ?_
    refine va_get (D := D) (ci := 1) (v := .ref v) (C := RX1) (T := TX1) (N := 1) hx hb hts in_X1_set_X1 hown hK hP 0 rfl rfl 0 (by decide) (hts (.fieldLink RX1 15 "TypingCoach$Cells" "values" "[I") (List.mem_of_getElem? (i := 1) rfl)) (fun _ h9 => h9) rfl dX1_set_6 ?_
    refine va_alen (v := nI n) hx hb hK hP 1 0 rfl rfl rfl dX1_set_9 ?_
    refine lv_icmp_ge (tgt := 20) hx hb dX1_set_10 (by decide) (fun c_2 => ?_) (fun c_2 => ?_)
    · exact wr_v hx hb hr hlocks hP hD hS dX1_set_20 (by simp only [cSet, if_neg c_1, if_pos c_2, ↓reduceIte]) (Nat.le_refl _) (Nat.le_refl _)
    · refine lv_aload_n hx hb dX1_set_13 rfl (lv_at hl 0 rfl) ?_
      refine va_get (D := D) (ci := 1) (v := .ref v) (C := RX1) (T := TX1) (N := 1) hx hb hts in_X1_set_X1 hown hK hP 0 rfl rfl 0 (by decide) (hts (.fieldLink RX1 15 "TypingCoach$Cells" "values" "[I") (List.mem_of_getElem? (i := 1) rfl)) (fun _ h9 => h9) rfl dX1_set_14 ?_
      refine lv_iload_n hx hb dX1_set_17 rfl (lv_at hl 1 rfl) ?_
      refine lv_iload_n hx hb dX1_set_18 rfl (lv_at hl 2 rfl) ?_
      refine va_iast hx hb hK hP hD hS 1 0 rfl rfl (in_of hn c_1 c_2) dX1_set_19 (fun H locs hP hD hS => ?_)
      have hP : va_P D vwCl [(h, .inr (1, [.ref v])), (v, .inl (z 0, n, .inl (upd f i.toNatClampNeg x)))] H := hP
      have hD : va_D A [(h, .inr (1, [.ref v])), (v, .inl (z 0, n, .inl (upd f i.toNatClampNeg x)))] := hD
      exact wr_v hx hb hr hlocks hP hD hS dX1_set_20 (by simp only [cSet, if_neg c_1, if_neg c_2, ↓reduceIte]) (Nat.le_refl _) (Nat.le_refl _)
theorem hd_X1_add : yX1_add.cls = RX1 ∧ yX1_add.cls ≠ "java/lang/invoke/MethodHandle" ∧ yX1_add.cls ≠ "java/lang/invoke/VarHandle" ∧ (parseMethodDescriptor yX1_add.desc).map (fun d => d.parameters.length) = some 2 := by decide +kernel
set_option maxHeartbeats 4000000 in
set_option maxRecDepth 100000 in
theorem c_X1_add (l : Launch) (D : va_G) (z : Nat → ClassId) (q : Nat → Nat) (h : Nat) (v : Nat) (n : Nat) (f : Nat → Int32) (i : Int32) (mo : Int32) (sz : Nat) (hn : n < 2 ^ 31) : WR l yX1_add wsX1_add ({ frames := 1, cells := 0, slots := 0, locals := 22 } : Room) D z q [.ref h, .int i, .int mo] [(h, .inr (1, [.ref v])), (v, .inl (z 0, n, .inl f))] sz [(h, .inr (1, [.ref v])), (v, .inl (z 0, n, .inl (cSet n f i (cAt n f i + mo))))] none := by
  refine WR_mk (Qc := fun A => QW D [(h, .inr (1, [.ref v])), (v, .inl (z 0, n, .inl (cSet n f i (cAt n f i + mo))))] A none) (cc := cX1_add) (maxL := 3) (ret := none) (by decide) rfl (Nat.le_of_ble_eq_true rfl) ?_
  intro p e s m below meth c A hx hb hr hml hts hown hlocks hin0 H hP hD hE hS hA ls hl
  have hK := hE.1
  have hown : s.vm.findClass RX1 = some m.cls := hown
  have hl : lv_has ls 3 [(0, .ref h), (1, .int i), (2, .int mo)] := hl
  refine lv_aload_n hx hb dX1_add_0 rfl (lv_at hl 0 rfl) ?_
  refine lv_iload_n hx hb dX1_add_1 rfl (lv_at hl 1 rfl) ?_
  refine lv_aload_n hx hb dX1_add_2 rfl (lv_at hl 0 rfl) ?_
  refine lv_iload_n hx hb dX1_add_3 rfl (lv_at hl 1 rfl) ?_
  refine rdV (As := [.int i]) (rest := [.int i, .ref h]) ⟨hx, hb, hml, hown, hts⟩ (c_X1_at l D z q h v n f i hn) (cwV 1 hts gX1_add_X1_at rfl rfl rfl hd_X1_at ⟨Nat.le_of_ble_eq_true rfl, Nat.le_of_ble_eq_true rfl⟩) hE hS hA hP [0, 1] rfl rfl rfl rfl rfl hl.1 rfl (Nat.le_of_ble_eq_true rfl) dX1_add_4 ⟨(Nat.le_of_ble_eq_true rfl), (Nat.le_of_ble_eq_true rfl)⟩ ?_
  refine lv_iload_n hx hb dX1_add_7 rfl (lv_at hl 2 rfl) ?_
  refine lv_iadd hx hb dX1_add_8 ?_
  refine wrVv (As := [.int i, .int ((cAt n f i) + mo)]) (rest := []) ⟨hx, hb, hml, hown, hts⟩ (c_X1_set l D z q h v n f i ((cAt n f i) + mo) H.size hn) (cwV 2 hts gX1_add_X1_set rfl rfl rfl hd_X1_set ⟨Nat.le_of_ble_eq_true rfl, Nat.le_of_ble_eq_true rfl⟩) hE hS hA hP hD [0, 1] rfl rfl rfl rfl rfl rfl rfl hl.1 rfl (Nat.le_of_ble_eq_true rfl) dX1_add_9 ⟨(Nat.le_of_ble_eq_true rfl), (Nat.le_of_ble_eq_true rfl)⟩ (fun H locs hP hD hS => ?_)
  have hP : va_P D vwCl [(h, .inr (1, [.ref v])), (v, .inl (z 0, n, .inl (cSet n f i ((cAt n f i) + mo))))] H := hP
  have hD : va_D A [(h, .inr (1, [.ref v])), (v, .inl (z 0, n, .inl (cSet n f i ((cAt n f i) + mo))))] := hD
  exact wr_v hx hb hr hlocks hP hD hS dX1_add_12 (rfl) (Nat.le_refl _) (Nat.le_refl _)
set_option maxRecDepth 20000 in
theorem in_X0_columnOf_X0 : ∀ w ∈ wsX00, w ∈ wsX0_columnOf := mem_r _ [8, 9] (by decide +kernel)
theorem hd_X0_columnOf : yX0_columnOf.cls = RX0 ∧ yX0_columnOf.cls ≠ "java/lang/invoke/MethodHandle" ∧ yX0_columnOf.cls ≠ "java/lang/invoke/VarHandle" ∧ (parseMethodDescriptor yX0_columnOf.desc).map (fun d => d.parameters.length) = some 1 := by decide +kernel
set_option maxHeartbeats 4000000 in
set_option maxRecDepth 100000 in
theorem c_X0_columnOf (l : Launch) (D : va_G) (z : Nat → ClassId) (q : Nat → Nat) (h : Nat) (c1 : Nat) (v1 : Nat) (c2 : Nat) (v2 : Nat) (pl : Nat → Int32) (lo : Nat → Int32) (i : Int32)  : RD l yX0_columnOf wsX0_columnOf ({ frames := 1, cells := 0, slots := 0, locals := 21 } : Room) D z q [.ref h, .int i] [(h, .inr (0, [.ref c1, .ref c2])), (c1, .inr (1, [.ref v1])), (v1, .inl (z 0, 26, .inl pl)), (c2, .inr (1, [.ref v2])), (v2, .inl (z 0, 30, .inl lo))] (some (.int (bCol pl i))) := by
  refine RD_mk (cc := cX0_columnOf) (maxL := 2) (ret := (some .int)) (by decide) rfl (Nat.le_of_ble_eq_true rfl) ?_
  intro p e s m below meth c hx hb hr hml hts hown hlocks hP hE hS hA ls hl
  have hK := hE.1
  have hown : s.vm.findClass RX0 = some m.cls := hown
  have hl : lv_has ls 2 [(0, .ref h), (1, .int i)] := hl
  refine lv_aload_n hx hb dX0_columnOf_0 rfl (lv_at hl 0 rfl) ?_
  refine va_get (D := D) (ci := 0) (v := .ref c1) (C := RX0) (T := TX0) (N := 2) hx hb hts in_X0_columnOf_X0 hown hK hP 0 rfl rfl 0 (by decide) (hts (.fieldLink RX0 14 "TypingCoach$Board" "placeOfLetter" "LTypingCoach$Cells;") (List.mem_of_getElem? (i := 1) rfl)) (fun _ h9 => h9) rfl dX0_columnOf_1 ?_
  refine lv_iload_n hx hb dX0_columnOf_4 rfl (lv_at hl 1 rfl) ?_
  refine rdV (As := [.int i]) (rest := []) ⟨hx, hb, hml, hown, hts⟩ (c_X1_at l D z q c1 v1 26 pl i (Nat.le_of_ble_eq_true rfl)) (cwV 1 hts gX0_columnOf_X1_at rfl rfl rfl hd_X1_at ⟨Nat.le_of_ble_eq_true rfl, Nat.le_of_ble_eq_true rfl⟩) hE hS hA hP [1, 2] rfl rfl rfl rfl rfl hl.1 rfl (Nat.le_of_ble_eq_true rfl) dX0_columnOf_5 ⟨(Nat.le_of_ble_eq_true rfl), (Nat.le_of_ble_eq_true rfl)⟩ ?_
  refine lv_bipush (v := 10) hx hb dX0_columnOf_8 (by decide) ?_
  refine lv_irem hx hb dX0_columnOf_10 (by decide) ?_
  exact rd_i hx hb hr hlocks dX0_columnOf_11 (rfl)
set_option maxRecDepth 20000 in
theorem in_X0_rowOf_X0 : ∀ w ∈ wsX00, w ∈ wsX0_rowOf := mem_r _ [8, 9] (by decide +kernel)
theorem hd_X0_rowOf : yX0_rowOf.cls = RX0 ∧ yX0_rowOf.cls ≠ "java/lang/invoke/MethodHandle" ∧ yX0_rowOf.cls ≠ "java/lang/invoke/VarHandle" ∧ (parseMethodDescriptor yX0_rowOf.desc).map (fun d => d.parameters.length) = some 1 := by decide +kernel
set_option maxHeartbeats 4000000 in
set_option maxRecDepth 100000 in
theorem c_X0_rowOf (l : Launch) (D : va_G) (z : Nat → ClassId) (q : Nat → Nat) (h : Nat) (c1 : Nat) (v1 : Nat) (c2 : Nat) (v2 : Nat) (pl : Nat → Int32) (lo : Nat → Int32) (i : Int32)  : RD l yX0_rowOf wsX0_rowOf ({ frames := 1, cells := 0, slots := 0, locals := 21 } : Room) D z q [.ref h, .int i] [(h, .inr (0, [.ref c1, .ref c2])), (c1, .inr (1, [.ref v1])), (v1, .inl (z 0, 26, .inl pl)), (c2, .inr (1, [.ref v2])), (v2, .inl (z 0, 30, .inl lo))] (some (.int (bRow pl i))) := by
  refine RD_mk (cc := cX0_rowOf) (maxL := 2) (ret := (some .int)) (by decide) rfl (Nat.le_of_ble_eq_true rfl) ?_
  intro p e s m below meth c hx hb hr hml hts hown hlocks hP hE hS hA ls hl
  have hK := hE.1
  have hown : s.vm.findClass RX0 = some m.cls := hown
  have hl : lv_has ls 2 [(0, .ref h), (1, .int i)] := hl
  refine lv_aload_n hx hb dX0_rowOf_0 rfl (lv_at hl 0 rfl) ?_
  refine va_get (D := D) (ci := 0) (v := .ref c1) (C := RX0) (T := TX0) (N := 2) hx hb hts in_X0_rowOf_X0 hown hK hP 0 rfl rfl 0 (by decide) (hts (.fieldLink RX0 14 "TypingCoach$Board" "placeOfLetter" "LTypingCoach$Cells;") (List.mem_of_getElem? (i := 1) rfl)) (fun _ h9 => h9) rfl dX0_rowOf_1 ?_
  refine lv_iload_n hx hb dX0_rowOf_4 rfl (lv_at hl 1 rfl) ?_
  refine rdV (As := [.int i]) (rest := []) ⟨hx, hb, hml, hown, hts⟩ (c_X1_at l D z q c1 v1 26 pl i (Nat.le_of_ble_eq_true rfl)) (cwV 1 hts gX0_rowOf_X1_at rfl rfl rfl hd_X1_at ⟨Nat.le_of_ble_eq_true rfl, Nat.le_of_ble_eq_true rfl⟩) hE hS hA hP [1, 2] rfl rfl rfl rfl rfl hl.1 rfl (Nat.le_of_ble_eq_true rfl) dX0_rowOf_5 ⟨(Nat.le_of_ble_eq_true rfl), (Nat.le_of_ble_eq_true rfl)⟩ ?_
  refine lv_bipush (v := 10) hx hb dX0_rowOf_8 (by decide) ?_
  refine lv_idiv hx hb dX0_rowOf_10 (by decide) ?_
  exact rd_i hx hb hr hlocks dX0_rowOf_11 (rfl)
theorem hd_X0_fingerOf : yX0_fingerOf.cls = RX0 ∧ yX0_fingerOf.cls ≠ "java/lang/invoke/MethodHandle" ∧ yX0_fingerOf.cls ≠ "java/lang/invoke/VarHandle" ∧ (parseMethodDescriptor yX0_fingerOf.desc).map (fun d => d.parameters.length) = some 1 := by decide +kernel
set_option maxHeartbeats 4000000 in
set_option maxRecDepth 100000 in
theorem c_X0_fingerOf (l : Launch) (D : va_G) (z : Nat → ClassId) (q : Nat → Nat) (h : Nat) (c1 : Nat) (v1 : Nat) (c2 : Nat) (v2 : Nat) (pl : Nat → Int32) (lo : Nat → Int32) (i : Int32)  : RD l yX0_fingerOf wsX0_fingerOf ({ frames := 2, cells := 0, slots := 0, locals := 42 } : Room) D z q [.ref h, .int i] [(h, .inr (0, [.ref c1, .ref c2])), (c1, .inr (1, [.ref v1])), (v1, .inl (z 0, 26, .inl pl)), (c2, .inr (1, [.ref v2])), (v2, .inl (z 0, 30, .inl lo))] (some (.int (bFin pl i))) := by
  refine RD_mk (cc := cX0_fingerOf) (maxL := 3) (ret := (some .int)) (by decide) rfl (Nat.le_of_ble_eq_true rfl) ?_
  intro p e s m below meth c hx hb hr hml hts hown hlocks hP hE hS hA ls hl
  have hK := hE.1
  have hown : s.vm.findClass RX0 = some m.cls := hown
  have hl : lv_has ls 3 [(0, .ref h), (1, .int i)] := hl
  refine lv_aload_n hx hb dX0_fingerOf_0 rfl (lv_at hl 0 rfl) ?_
  refine lv_iload_n hx hb dX0_fingerOf_1 rfl (lv_at hl 1 rfl) ?_
  refine rdV (As := [.int i]) (rest := []) ⟨hx, hb, hml, hown, hts⟩ (c_X0_columnOf l D z q h c1 v1 c2 v2 pl lo i) (cwV 1 hts gX0_fingerOf_X0_columnOf rfl rfl rfl hd_X0_columnOf ⟨Nat.le_of_ble_eq_true rfl, Nat.le_of_ble_eq_true rfl⟩) hE hS hA hP [0, 1, 2, 3, 4] rfl rfl rfl rfl rfl hl.1 rfl (Nat.le_of_ble_eq_true rfl) dX0_fingerOf_2 ⟨(Nat.le_of_ble_eq_true rfl), (Nat.le_of_ble_eq_true rfl)⟩ ?_
  refine lv_istore_n (lv' := [(2, .int (bCol pl i)), (0, .ref h), (1, .int i)]) hx hb dX0_fingerOf_5 rfl hl (by decide) rfl (fun ls hl => ?_)
  refine lv_iload_n hx hb dX0_fingerOf_6 rfl (lv_at hl 0 rfl) ?_
  refine lv_if_lt (tgt := 26) hx hb dX0_fingerOf_7 (by decide) (fun c_1 => ?_) (fun c_1 => ?_)
  · refine lv_iconst (v := (-1)) hx hb dX0_fingerOf_26 (by decide) ?_
    exact rd_i hx hb hr hlocks dX0_fingerOf_27 (by simp only [bFin, if_pos c_1, ↓reduceIte])
  · refine lv_iload_n hx hb dX0_fingerOf_10 rfl (lv_at hl 0 rfl) ?_
    refine va_getsN hx hb hE.2.2.2.1.1 hS hown (va_Nw.use rfl hE.2.1.2.2) (fun _ h9 => h9) dX0_fingerOf_11 ?_
    refine va_tlen hx hb hE.2.2.2.1.2 hS (v := 10) rfl dX0_fingerOf_14 ?_
    refine lv_icmp_ge (tgt := 26) hx hb dX0_fingerOf_15 (by decide) (fun c_2 => ?_) (fun c_2 => ?_)
    · refine lv_iconst (v := (-1)) hx hb dX0_fingerOf_26 (by decide) ?_
      exact rd_i hx hb hr hlocks dX0_fingerOf_27 (by simp only [bFin, if_neg c_1, if_pos c_2, ↓reduceIte])
    · refine va_getsN hx hb hE.2.2.2.1.1 hS hown (va_Nw.use rfl hE.2.1.2.2) (fun _ h9 => h9) dX0_fingerOf_18 ?_
      refine lv_iload_n hx hb dX0_fingerOf_21 rfl (lv_at hl 0 rfl) ?_
      refine va_ti hx hb hE.2.2.2.1.2 hS (in_of (n := 10) (Nat.le_of_ble_eq_true rfl) c_1 c_2) (v := .int (fingT (bCol pl i).toNatClampNeg)) rfl dX0_fingerOf_22 ?_
      refine lv_goto (tgt := 27) hx hb dX0_fingerOf_23 (by decide) ?_
      exact rd_i hx hb hr hlocks dX0_fingerOf_27 (by simp only [bFin, if_neg c_1, if_neg c_2, ↓reduceIte])
theorem hd_X0_touch : yX0_touch.cls = RX0 ∧ yX0_touch.cls ≠ "java/lang/invoke/MethodHandle" ∧ yX0_touch.cls ≠ "java/lang/invoke/VarHandle" ∧ (parseMethodDescriptor yX0_touch.desc).map (fun d => d.parameters.length) = some 2 := by decide +kernel
set_option maxHeartbeats 4000000 in
set_option maxRecDepth 100000 in
theorem c_X0_touch (l : Launch) (D : va_G) (z : Nat → ClassId) (q : Nat → Nat) (h : Nat) (c1 : Nat) (v1 : Nat) (c2 : Nat) (v2 : Nat) (pl : Nat → Int32) (lo : Nat → Int32) (i : Int32) (j : Int32)  : RD l yX0_touch wsX0_touch ({ frames := 2, cells := 0, slots := 0, locals := 42 } : Room) D z q [.ref h, .int i, .int j] [(h, .inr (0, [.ref c1, .ref c2])), (c1, .inr (1, [.ref v1])), (v1, .inl (z 0, 26, .inl pl)), (c2, .inr (1, [.ref v2])), (v2, .inl (z 0, 30, .inl lo))] (some (.int (bTouch pl i j))) := by
  refine RD_mk (cc := cX0_touch) (maxL := 3) (ret := (some .boolean)) (by decide) rfl (Nat.le_of_ble_eq_true rfl) ?_
  intro p e s m below meth c hx hb hr hml hts hown hlocks hP hE hS hA ls hl
  have hK := hE.1
  have hown : s.vm.findClass RX0 = some m.cls := hown
  have hl : lv_has ls 3 [(0, .ref h), (1, .int i), (2, .int j)] := hl
  refine lv_aload_n hx hb dX0_touch_0 rfl (lv_at hl 0 rfl) ?_
  refine lv_iload_n hx hb dX0_touch_1 rfl (lv_at hl 1 rfl) ?_
  refine rdV (As := [.int i]) (rest := []) ⟨hx, hb, hml, hown, hts⟩ (c_X0_columnOf l D z q h c1 v1 c2 v2 pl lo i) (cwV 1 hts gX0_touch_X0_columnOf rfl rfl rfl hd_X0_columnOf ⟨Nat.le_of_ble_eq_true rfl, Nat.le_of_ble_eq_true rfl⟩) hE hS hA hP [0, 1, 2, 3, 4] rfl rfl rfl rfl rfl hl.1 rfl (Nat.le_of_ble_eq_true rfl) dX0_touch_2 ⟨(Nat.le_of_ble_eq_true rfl), (Nat.le_of_ble_eq_true rfl)⟩ ?_
  refine lv_aload_n hx hb dX0_touch_5 rfl (lv_at hl 0 rfl) ?_
  refine lv_iload_n hx hb dX0_touch_6 rfl (lv_at hl 2 rfl) ?_
  refine rdV (As := [.int j]) (rest := [.int (bCol pl i)]) ⟨hx, hb, hml, hown, hts⟩ (c_X0_columnOf l D z q h c1 v1 c2 v2 pl lo j) (cwV 1 hts gX0_touch_X0_columnOf rfl rfl rfl hd_X0_columnOf ⟨Nat.le_of_ble_eq_true rfl, Nat.le_of_ble_eq_true rfl⟩) hE hS hA hP [0, 1, 2, 3, 4] rfl rfl rfl rfl rfl hl.1 rfl (Nat.le_of_ble_eq_true rfl) dX0_touch_7 ⟨(Nat.le_of_ble_eq_true rfl), (Nat.le_of_ble_eq_true rfl)⟩ ?_
  refine lv_isub hx hb dX0_touch_10 ?_
  refine va_mabs hx hb (by rw [hml]; exact hl.1.symm) hown (hts (.methodLink RX0 37 Lib.Math.abs.name) (List.mem_of_getElem? (i := 1) rfl)) (hts (.static Lib.Math.abs.name) (List.mem_of_getElem? (i := 2) rfl)) (hts (.initialized "java/lang/Math") (List.mem_of_getElem? (i := 3) rfl)) (hts (.code Lib.Math.abs.name Lib.Math.abs.code 1 (some .int)) (List.mem_of_getElem? (i := 4) rfl)) (Nat.le_of_ble_eq_true rfl) (Nat.le_of_ble_eq_true rfl) (Nat.zero_le _) (Nat.zero_le _) dX0_touch_11 ?_
  refine lv_iconst (v := 1) hx hb dX0_touch_14 (by decide) ?_
  refine lv_icmp_gt (tgt := 40) hx hb dX0_touch_15 (by decide) (fun c_1 => ?_) (fun c_1 => ?_)
  · refine lv_iconst (v := 0) hx hb dX0_touch_40 (by decide) ?_
    exact rd_z hx hb hr hlocks dX0_touch_41 (by decide) (by simp only [bTouch, iAbs, c_1, ↓reduceIte])
  · refine lv_aload_n hx hb dX0_touch_18 rfl (lv_at hl 0 rfl) ?_
    refine lv_iload_n hx hb dX0_touch_19 rfl (lv_at hl 1 rfl) ?_
    refine rdV (As := [.int i]) (rest := []) ⟨hx, hb, hml, hown, hts⟩ (c_X0_rowOf l D z q h c1 v1 c2 v2 pl lo i) (cwV 1 hts gX0_touch_X0_rowOf rfl rfl rfl hd_X0_rowOf ⟨Nat.le_of_ble_eq_true rfl, Nat.le_of_ble_eq_true rfl⟩) hE hS hA hP [0, 1, 2, 3, 4] rfl rfl rfl rfl rfl hl.1 rfl (Nat.le_of_ble_eq_true rfl) dX0_touch_20 ⟨(Nat.le_of_ble_eq_true rfl), (Nat.le_of_ble_eq_true rfl)⟩ ?_
    refine lv_aload_n hx hb dX0_touch_23 rfl (lv_at hl 0 rfl) ?_
    refine lv_iload_n hx hb dX0_touch_24 rfl (lv_at hl 2 rfl) ?_
    refine rdV (As := [.int j]) (rest := [.int (bRow pl i)]) ⟨hx, hb, hml, hown, hts⟩ (c_X0_rowOf l D z q h c1 v1 c2 v2 pl lo j) (cwV 1 hts gX0_touch_X0_rowOf rfl rfl rfl hd_X0_rowOf ⟨Nat.le_of_ble_eq_true rfl, Nat.le_of_ble_eq_true rfl⟩) hE hS hA hP [0, 1, 2, 3, 4] rfl rfl rfl rfl rfl hl.1 rfl (Nat.le_of_ble_eq_true rfl) dX0_touch_25 ⟨(Nat.le_of_ble_eq_true rfl), (Nat.le_of_ble_eq_true rfl)⟩ ?_
    refine lv_isub hx hb dX0_touch_28 ?_
    refine va_mabs hx hb (by rw [hml]; exact hl.1.symm) hown (hts (.methodLink RX0 37 Lib.Math.abs.name) (List.mem_of_getElem? (i := 1) rfl)) (hts (.static Lib.Math.abs.name) (List.mem_of_getElem? (i := 2) rfl)) (hts (.initialized "java/lang/Math") (List.mem_of_getElem? (i := 3) rfl)) (hts (.code Lib.Math.abs.name Lib.Math.abs.code 1 (some .int)) (List.mem_of_getElem? (i := 4) rfl)) (Nat.le_of_ble_eq_true rfl) (Nat.le_of_ble_eq_true rfl) (Nat.zero_le _) (Nat.zero_le _) dX0_touch_29 ?_
    refine lv_iconst (v := 1) hx hb dX0_touch_32 (by decide) ?_
    refine lv_icmp_gt (tgt := 40) hx hb dX0_touch_33 (by decide) (fun c_2 => ?_) (fun c_2 => ?_)
    · refine lv_iconst (v := 0) hx hb dX0_touch_40 (by decide) ?_
      exact rd_z hx hb hr hlocks dX0_touch_41 (by decide) (by simp only [bTouch, iAbs, c_1, c_2, ↓reduceIte])
    · refine lv_iconst (v := 1) hx hb dX0_touch_36 (by decide) ?_
      refine lv_goto (tgt := 41) hx hb dX0_touch_37 (by decide) ?_
      exact rd_z hx hb hr hlocks dX0_touch_41 (by decide) (by simp only [bTouch, iAbs, c_1, c_2, ↓reduceIte])
set_option maxRecDepth 20000 in
theorem in_X0_mirrorOf_X0 : ∀ w ∈ wsX00, w ∈ wsX0_mirrorOf := mem_r _ [18, 19] (by decide +kernel)
theorem hd_X0_mirrorOf : yX0_mirrorOf.cls = RX0 ∧ yX0_mirrorOf.cls ≠ "java/lang/invoke/MethodHandle" ∧ yX0_mirrorOf.cls ≠ "java/lang/invoke/VarHandle" ∧ (parseMethodDescriptor yX0_mirrorOf.desc).map (fun d => d.parameters.length) = some 1 := by decide +kernel
set_option maxHeartbeats 4000000 in
set_option maxRecDepth 100000 in
theorem c_X0_mirrorOf (l : Launch) (D : va_G) (z : Nat → ClassId) (q : Nat → Nat) (h : Nat) (c1 : Nat) (v1 : Nat) (c2 : Nat) (v2 : Nat) (pl : Nat → Int32) (lo : Nat → Int32) (i : Int32)  : RD l yX0_mirrorOf wsX0_mirrorOf ({ frames := 2, cells := 0, slots := 0, locals := 42 } : Room) D z q [.ref h, .int i] [(h, .inr (0, [.ref c1, .ref c2])), (c1, .inr (1, [.ref v1])), (v1, .inl (z 0, 26, .inl pl)), (c2, .inr (1, [.ref v2])), (v2, .inl (z 0, 30, .inl lo))] (some (.int (bMir pl lo i))) := by
  refine RD_mk (cc := cX0_mirrorOf) (maxL := 2) (ret := (some .int)) (by decide) rfl (Nat.le_of_ble_eq_true rfl) ?_
  intro p e s m below meth c hx hb hr hml hts hown hlocks hP hE hS hA ls hl
  have hK := hE.1
  have hown : s.vm.findClass RX0 = some m.cls := hown
  have hl : lv_has ls 2 [(0, .ref h), (1, .int i)] := hl
  refine lv_aload_n hx hb dX0_mirrorOf_0 rfl (lv_at hl 0 rfl) ?_
  refine va_get (D := D) (ci := 0) (v := .ref c2) (C := RX0) (T := TX0) (N := 2) hx hb hts in_X0_mirrorOf_X0 hown hK hP 0 rfl rfl 1 (by decide) (hts (.fieldLink RX0 20 "TypingCoach$Board" "letterOfPlace" "LTypingCoach$Cells;") (List.mem_of_getElem? (i := 1) rfl)) (fun _ h9 => h9) rfl dX0_mirrorOf_1 ?_
  refine lv_aload_n hx hb dX0_mirrorOf_4 rfl (lv_at hl 0 rfl) ?_
  refine lv_iload_n hx hb dX0_mirrorOf_5 rfl (lv_at hl 1 rfl) ?_
  refine rdV (As := [.int i]) (rest := [.ref c2]) ⟨hx, hb, hml, hown, hts⟩ (c_X0_rowOf l D z q h c1 v1 c2 v2 pl lo i) (cwV 1 hts gX0_mirrorOf_X0_rowOf rfl rfl rfl hd_X0_rowOf ⟨Nat.le_of_ble_eq_true rfl, Nat.le_of_ble_eq_true rfl⟩) hE hS hA hP [0, 1, 2, 3, 4] rfl rfl rfl rfl rfl hl.1 rfl (Nat.le_of_ble_eq_true rfl) dX0_mirrorOf_6 ⟨(Nat.le_of_ble_eq_true rfl), (Nat.le_of_ble_eq_true rfl)⟩ ?_
  refine lv_bipush (v := 10) hx hb dX0_mirrorOf_9 (by decide) ?_
  refine lv_imul hx hb dX0_mirrorOf_11 ?_
  refine lv_bipush (v := 10) hx hb dX0_mirrorOf_12 (by decide) ?_
  refine lv_iadd hx hb dX0_mirrorOf_14 ?_
  refine lv_iconst (v := 1) hx hb dX0_mirrorOf_15 (by decide) ?_
  refine lv_isub hx hb dX0_mirrorOf_16 ?_
  refine lv_aload_n hx hb dX0_mirrorOf_17 rfl (lv_at hl 0 rfl) ?_
  refine lv_iload_n hx hb dX0_mirrorOf_18 rfl (lv_at hl 1 rfl) ?_
  refine rdV (As := [.int i]) (rest := [.int ((((bRow pl i) * 10) + 10) - 1), .ref c2]) ⟨hx, hb, hml, hown, hts⟩ (c_X0_columnOf l D z q h c1 v1 c2 v2 pl lo i) (cwV 1 hts gX0_mirrorOf_X0_columnOf rfl rfl rfl hd_X0_columnOf ⟨Nat.le_of_ble_eq_true rfl, Nat.le_of_ble_eq_true rfl⟩) hE hS hA hP [0, 1, 2, 3, 4] rfl rfl rfl rfl rfl hl.1 rfl (Nat.le_of_ble_eq_true rfl) dX0_mirrorOf_19 ⟨(Nat.le_of_ble_eq_true rfl), (Nat.le_of_ble_eq_true rfl)⟩ ?_
  refine lv_isub hx hb dX0_mirrorOf_22 ?_
  refine rdV (As := [.int (((((bRow pl i) * 10) + 10) - 1) - (bCol pl i))]) (rest := []) ⟨hx, hb, hml, hown, hts⟩ (c_X1_at l D z q c2 v2 30 lo (((((bRow pl i) * 10) + 10) - 1) - (bCol pl i)) (Nat.le_of_ble_eq_true rfl)) (cwV 1 hts gX0_mirrorOf_X1_at rfl rfl rfl hd_X1_at ⟨Nat.le_of_ble_eq_true rfl, Nat.le_of_ble_eq_true rfl⟩) hE hS hA hP [3, 4] rfl rfl rfl rfl rfl hl.1 rfl (Nat.le_of_ble_eq_true rfl) dX0_mirrorOf_23 ⟨(Nat.le_of_ble_eq_true rfl), (Nat.le_of_ble_eq_true rfl)⟩ ?_
  exact rd_i hx hb hr hlocks dX0_mirrorOf_26 (rfl)
set_option maxRecDepth 20000 in
theorem in_X0_move_X0 : ∀ w ∈ wsX00, w ∈ wsX0_move := mem_r _ [13, 14] (by decide +kernel)
theorem hd_X0_move : yX0_move.cls = RX0 ∧ yX0_move.cls ≠ "java/lang/invoke/MethodHandle" ∧ yX0_move.cls ≠ "java/lang/invoke/VarHandle" ∧ (parseMethodDescriptor yX0_move.desc).map (fun d => d.parameters.length) = some 2 := by decide +kernel
set_option maxHeartbeats 4000000 in
set_option maxRecDepth 100000 in
theorem c_X0_move (l : Launch) (D : va_G) (z : Nat → ClassId) (q : Nat → Nat) (h : Nat) (c1 : Nat) (v1 : Nat) (c2 : Nat) (v2 : Nat) (pl : Nat → Int32) (lo : Nat → Int32) (i : Int32) (x : Int32) (sz : Nat)  : WR l yX0_move wsX0_move ({ frames := 1, cells := 0, slots := 0, locals := 22 } : Room) D z q [.ref h, .int i, .int x] [(h, .inr (0, [.ref c1, .ref c2])), (c1, .inr (1, [.ref v1])), (v1, .inl (z 0, 26, .inl pl)), (c2, .inr (1, [.ref v2])), (v2, .inl (z 0, 30, .inl lo))] sz [(h, .inr (0, [.ref c1, .ref c2])), (c1, .inr (1, [.ref v1])), (v1, .inl (z 0, 26, .inl (bMovP pl lo i x))), (c2, .inr (1, [.ref v2])), (v2, .inl (z 0, 30, .inl (bMovL pl lo i x)))] (some (.int (cAt 30 lo x))) := by
  refine WR_mk (Qc := fun A => QW D [(h, .inr (0, [.ref c1, .ref c2])), (c1, .inr (1, [.ref v1])), (v1, .inl (z 0, 26, .inl (bMovP pl lo i x))), (c2, .inr (1, [.ref v2])), (v2, .inl (z 0, 30, .inl (bMovL pl lo i x)))] A (some (.int (cAt 30 lo x)))) (cc := cX0_move) (maxL := 5) (ret := (some .int)) (by decide) rfl (Nat.le_of_ble_eq_true rfl) ?_
  intro p e s m below meth c A hx hb hr hml hts hown hlocks hin0 H hP hD hE hS hA ls hl
  have hK := hE.1
  have hown : s.vm.findClass RX0 = some m.cls := hown
  have hl : lv_has ls 5 [(0, .ref h), (1, .int i), (2, .int x)] := hl
  refine lv_aload_n hx hb dX0_move_0 rfl (lv_at hl 0 rfl) ?_
  refine va_get (D := D) (ci := 0) (v := .ref c2) (C := RX0) (T := TX0) (N := 2) hx hb hts in_X0_move_X0 hown hK hP 0 rfl rfl 1 (by decide) (hts (.fieldLink RX0 20 "TypingCoach$Board" "letterOfPlace" "LTypingCoach$Cells;") (List.mem_of_getElem? (i := 1) rfl)) (fun _ h9 => h9) rfl dX0_move_1 ?_
  refine lv_iload_n hx hb dX0_move_4 rfl (lv_at hl 2 rfl) ?_
  refine rdV (As := [.int x]) (rest := []) ⟨hx, hb, hml, hown, hts⟩ (c_X1_at l D z q c2 v2 30 lo x (Nat.le_of_ble_eq_true rfl)) (cwV 1 hts gX0_move_X1_at rfl rfl rfl hd_X1_at ⟨Nat.le_of_ble_eq_true rfl, Nat.le_of_ble_eq_true rfl⟩) hE hS hA hP [3, 4] rfl rfl rfl rfl rfl hl.1 rfl (Nat.le_of_ble_eq_true rfl) dX0_move_5 ⟨(Nat.le_of_ble_eq_true rfl), (Nat.le_of_ble_eq_true rfl)⟩ ?_
  refine lv_istore_n (lv' := [(3, .int (cAt 30 lo x)), (0, .ref h), (1, .int i), (2, .int x)]) hx hb dX0_move_8 rfl hl (by decide) rfl (fun ls hl => ?_)
  refine lv_aload_n hx hb dX0_move_9 rfl (lv_at hl 1 rfl) ?_
  refine va_get (D := D) (ci := 0) (v := .ref c1) (C := RX0) (T := TX0) (N := 2) hx hb hts in_X0_move_X0 hown hK hP 0 rfl rfl 0 (by decide) (hts (.fieldLink RX0 14 "TypingCoach$Board" "placeOfLetter" "LTypingCoach$Cells;") (List.mem_of_getElem? (i := 2) rfl)) (fun _ h9 => h9) rfl dX0_move_10 ?_
  refine lv_iload_n hx hb dX0_move_13 rfl (lv_at hl 2 rfl) ?_
  refine rdV (As := [.int i]) (rest := []) ⟨hx, hb, hml, hown, hts⟩ (c_X1_at l D z q c1 v1 26 pl i (Nat.le_of_ble_eq_true rfl)) (cwV 1 hts gX0_move_X1_at rfl rfl rfl hd_X1_at ⟨Nat.le_of_ble_eq_true rfl, Nat.le_of_ble_eq_true rfl⟩) hE hS hA hP [1, 2] rfl rfl rfl rfl rfl hl.1 rfl (Nat.le_of_ble_eq_true rfl) dX0_move_14 ⟨(Nat.le_of_ble_eq_true rfl), (Nat.le_of_ble_eq_true rfl)⟩ ?_
  refine lv_istore (lv' := [(4, .int (cAt 26 pl i)), (3, .int (cAt 30 lo x)), (0, .ref h), (1, .int i), (2, .int x)]) hx hb dX0_move_17 hl (by decide) rfl (fun ls hl => ?_)
  refine lv_aload_n hx hb dX0_move_19 rfl (lv_at hl 2 rfl) ?_
  refine va_get (D := D) (ci := 0) (v := .ref c2) (C := RX0) (T := TX0) (N := 2) hx hb hts in_X0_move_X0 hown hK hP 0 rfl rfl 1 (by decide) (hts (.fieldLink RX0 20 "TypingCoach$Board" "letterOfPlace" "LTypingCoach$Cells;") (List.mem_of_getElem? (i := 1) rfl)) (fun _ h9 => h9) rfl dX0_move_20 ?_
  refine lv_iload hx hb dX0_move_23 (lv_at hl 0 rfl) ?_
  refine lv_iload_n hx hb dX0_move_25 rfl (lv_at hl 1 rfl) ?_
  refine wrVv (As := [.int (cAt 26 pl i), .int (cAt 30 lo x)]) (rest := []) ⟨hx, hb, hml, hown, hts⟩ (c_X1_set l D z q c2 v2 30 lo (cAt 26 pl i) (cAt 30 lo x) H.size (Nat.le_of_ble_eq_true rfl)) (cwV 2 hts gX0_move_X1_set rfl rfl rfl hd_X1_set ⟨Nat.le_of_ble_eq_true rfl, Nat.le_of_ble_eq_true rfl⟩) hE hS hA hP hD [3, 4] rfl rfl rfl rfl rfl rfl rfl hl.1 rfl (Nat.le_of_ble_eq_true rfl) dX0_move_26 ⟨(Nat.le_of_ble_eq_true rfl), (Nat.le_of_ble_eq_true rfl)⟩ (fun H locs hP hD hS => ?_)
  have hP : va_P D vwCl [(h, .inr (0, [.ref c1, .ref c2])), (c1, .inr (1, [.ref v1])), (v1, .inl (z 0, 26, .inl pl)), (c2, .inr (1, [.ref v2])), (v2, .inl (z 0, 30, .inl (cSet 30 lo (cAt 26 pl i) (cAt 30 lo x))))] H := hP
  have hD : va_D A [(h, .inr (0, [.ref c1, .ref c2])), (c1, .inr (1, [.ref v1])), (v1, .inl (z 0, 26, .inl pl)), (c2, .inr (1, [.ref v2])), (v2, .inl (z 0, 30, .inl (cSet 30 lo (cAt 26 pl i) (cAt 30 lo x))))] := hD
  refine lv_iload_n hx hb dX0_move_29 rfl (lv_at hl 1 rfl) ?_
  refine lv_iconst (v := (-1)) hx hb dX0_move_30 (by decide) ?_
  refine lv_icmp_eq (tgt := 44) hx hb dX0_move_31 (by decide) (fun c_1 => ?_) (fun c_1 => ?_)
  · refine lv_aload_n hx hb dX0_move_44 rfl (lv_at hl 2 rfl) ?_
    refine va_get (D := D) (ci := 0) (v := .ref c2) (C := RX0) (T := TX0) (N := 2) hx hb hts in_X0_move_X0 hown hK hP 0 rfl rfl 1 (by decide) (hts (.fieldLink RX0 20 "TypingCoach$Board" "letterOfPlace" "LTypingCoach$Cells;") (List.mem_of_getElem? (i := 1) rfl)) (fun _ h9 => h9) rfl dX0_move_45 ?_
    refine lv_iload_n hx hb dX0_move_48 rfl (lv_at hl 4 rfl) ?_
    refine lv_iload_n hx hb dX0_move_49 rfl (lv_at hl 3 rfl) ?_
    refine wrVv (As := [.int x, .int i]) (rest := []) ⟨hx, hb, hml, hown, hts⟩ (c_X1_set l D z q c2 v2 30 (cSet 30 lo (cAt 26 pl i) (cAt 30 lo x)) x i H.size (Nat.le_of_ble_eq_true rfl)) (cwV 2 hts gX0_move_X1_set rfl rfl rfl hd_X1_set ⟨Nat.le_of_ble_eq_true rfl, Nat.le_of_ble_eq_true rfl⟩) hE hS hA hP hD [3, 4] rfl rfl rfl rfl rfl rfl rfl hl.1 rfl (Nat.le_of_ble_eq_true rfl) dX0_move_50 ⟨(Nat.le_of_ble_eq_true rfl), (Nat.le_of_ble_eq_true rfl)⟩ (fun H locs hP hD hS => ?_)
    have hP : va_P D vwCl [(h, .inr (0, [.ref c1, .ref c2])), (c1, .inr (1, [.ref v1])), (v1, .inl (z 0, 26, .inl pl)), (c2, .inr (1, [.ref v2])), (v2, .inl (z 0, 30, .inl (cSet 30 (cSet 30 lo (cAt 26 pl i) (cAt 30 lo x)) x i)))] H := hP
    have hD : va_D A [(h, .inr (0, [.ref c1, .ref c2])), (c1, .inr (1, [.ref v1])), (v1, .inl (z 0, 26, .inl pl)), (c2, .inr (1, [.ref v2])), (v2, .inl (z 0, 30, .inl (cSet 30 (cSet 30 lo (cAt 26 pl i) (cAt 30 lo x)) x i)))] := hD
    refine lv_aload_n hx hb dX0_move_53 rfl (lv_at hl 2 rfl) ?_
    refine va_get (D := D) (ci := 0) (v := .ref c1) (C := RX0) (T := TX0) (N := 2) hx hb hts in_X0_move_X0 hown hK hP 0 rfl rfl 0 (by decide) (hts (.fieldLink RX0 14 "TypingCoach$Board" "placeOfLetter" "LTypingCoach$Cells;") (List.mem_of_getElem? (i := 2) rfl)) (fun _ h9 => h9) rfl dX0_move_54 ?_
    refine lv_iload_n hx hb dX0_move_57 rfl (lv_at hl 3 rfl) ?_
    refine lv_iload_n hx hb dX0_move_58 rfl (lv_at hl 4 rfl) ?_
    refine wrVv (As := [.int i, .int x]) (rest := []) ⟨hx, hb, hml, hown, hts⟩ (c_X1_set l D z q c1 v1 26 pl i x H.size (Nat.le_of_ble_eq_true rfl)) (cwV 2 hts gX0_move_X1_set rfl rfl rfl hd_X1_set ⟨Nat.le_of_ble_eq_true rfl, Nat.le_of_ble_eq_true rfl⟩) hE hS hA hP hD [1, 2] rfl rfl rfl rfl rfl rfl rfl hl.1 rfl (Nat.le_of_ble_eq_true rfl) dX0_move_59 ⟨(Nat.le_of_ble_eq_true rfl), (Nat.le_of_ble_eq_true rfl)⟩ (fun H locs hP hD hS => ?_)
    have hP : va_P D vwCl [(h, .inr (0, [.ref c1, .ref c2])), (c1, .inr (1, [.ref v1])), (v1, .inl (z 0, 26, .inl (cSet 26 pl i x))), (c2, .inr (1, [.ref v2])), (v2, .inl (z 0, 30, .inl (cSet 30 (cSet 30 lo (cAt 26 pl i) (cAt 30 lo x)) x i)))] H := hP
    have hD : va_D A [(h, .inr (0, [.ref c1, .ref c2])), (c1, .inr (1, [.ref v1])), (v1, .inl (z 0, 26, .inl (cSet 26 pl i x))), (c2, .inr (1, [.ref v2])), (v2, .inl (z 0, 30, .inl (cSet 30 (cSet 30 lo (cAt 26 pl i) (cAt 30 lo x)) x i)))] := hD
    refine lv_iload_n hx hb dX0_move_62 rfl (lv_at hl 1 rfl) ?_
    exact wr_i hx hb hr hlocks hP hD hS dX0_move_63 (by simp only [bMovP, bMovL, if_pos c_1, ↓reduceIte]) (rfl) (Nat.le_refl _) (Nat.le_refl _)
  · refine lv_aload_n hx hb dX0_move_34 rfl (lv_at hl 2 rfl) ?_
    refine va_get (D := D) (ci := 0) (v := .ref c1) (C := RX0) (T := TX0) (N := 2) hx hb hts in_X0_move_X0 hown hK hP 0 rfl rfl 0 (by decide) (hts (.fieldLink RX0 14 "TypingCoach$Board" "placeOfLetter" "LTypingCoach$Cells;") (List.mem_of_getElem? (i := 2) rfl)) (fun _ h9 => h9) rfl dX0_move_35 ?_
    refine lv_iload_n hx hb dX0_move_38 rfl (lv_at hl 1 rfl) ?_
    refine lv_iload hx hb dX0_move_39 (lv_at hl 0 rfl) ?_
    refine wrVv (As := [.int (cAt 30 lo x), .int (cAt 26 pl i)]) (rest := []) ⟨hx, hb, hml, hown, hts⟩ (c_X1_set l D z q c1 v1 26 pl (cAt 30 lo x) (cAt 26 pl i) H.size (Nat.le_of_ble_eq_true rfl)) (cwV 2 hts gX0_move_X1_set rfl rfl rfl hd_X1_set ⟨Nat.le_of_ble_eq_true rfl, Nat.le_of_ble_eq_true rfl⟩) hE hS hA hP hD [1, 2] rfl rfl rfl rfl rfl rfl rfl hl.1 rfl (Nat.le_of_ble_eq_true rfl) dX0_move_41 ⟨(Nat.le_of_ble_eq_true rfl), (Nat.le_of_ble_eq_true rfl)⟩ (fun H locs hP hD hS => ?_)
    have hP : va_P D vwCl [(h, .inr (0, [.ref c1, .ref c2])), (c1, .inr (1, [.ref v1])), (v1, .inl (z 0, 26, .inl (cSet 26 pl (cAt 30 lo x) (cAt 26 pl i)))), (c2, .inr (1, [.ref v2])), (v2, .inl (z 0, 30, .inl (cSet 30 lo (cAt 26 pl i) (cAt 30 lo x))))] H := hP
    have hD : va_D A [(h, .inr (0, [.ref c1, .ref c2])), (c1, .inr (1, [.ref v1])), (v1, .inl (z 0, 26, .inl (cSet 26 pl (cAt 30 lo x) (cAt 26 pl i)))), (c2, .inr (1, [.ref v2])), (v2, .inl (z 0, 30, .inl (cSet 30 lo (cAt 26 pl i) (cAt 30 lo x))))] := hD
    refine lv_aload_n hx hb dX0_move_44 rfl (lv_at hl 2 rfl) ?_
    refine va_get (D := D) (ci := 0) (v := .ref c2) (C := RX0) (T := TX0) (N := 2) hx hb hts in_X0_move_X0 hown hK hP 0 rfl rfl 1 (by decide) (hts (.fieldLink RX0 20 "TypingCoach$Board" "letterOfPlace" "LTypingCoach$Cells;") (List.mem_of_getElem? (i := 1) rfl)) (fun _ h9 => h9) rfl dX0_move_45 ?_
    refine lv_iload_n hx hb dX0_move_48 rfl (lv_at hl 4 rfl) ?_
    refine lv_iload_n hx hb dX0_move_49 rfl (lv_at hl 3 rfl) ?_
    refine wrVv (As := [.int x, .int i]) (rest := []) ⟨hx, hb, hml, hown, hts⟩ (c_X1_set l D z q c2 v2 30 (cSet 30 lo (cAt 26 pl i) (cAt 30 lo x)) x i H.size (Nat.le_of_ble_eq_true rfl)) (cwV 2 hts gX0_move_X1_set rfl rfl rfl hd_X1_set ⟨Nat.le_of_ble_eq_true rfl, Nat.le_of_ble_eq_true rfl⟩) hE hS hA hP hD [3, 4] rfl rfl rfl rfl rfl rfl rfl hl.1 rfl (Nat.le_of_ble_eq_true rfl) dX0_move_50 ⟨(Nat.le_of_ble_eq_true rfl), (Nat.le_of_ble_eq_true rfl)⟩ (fun H locs hP hD hS => ?_)
    have hP : va_P D vwCl [(h, .inr (0, [.ref c1, .ref c2])), (c1, .inr (1, [.ref v1])), (v1, .inl (z 0, 26, .inl (cSet 26 pl (cAt 30 lo x) (cAt 26 pl i)))), (c2, .inr (1, [.ref v2])), (v2, .inl (z 0, 30, .inl (cSet 30 (cSet 30 lo (cAt 26 pl i) (cAt 30 lo x)) x i)))] H := hP
    have hD : va_D A [(h, .inr (0, [.ref c1, .ref c2])), (c1, .inr (1, [.ref v1])), (v1, .inl (z 0, 26, .inl (cSet 26 pl (cAt 30 lo x) (cAt 26 pl i)))), (c2, .inr (1, [.ref v2])), (v2, .inl (z 0, 30, .inl (cSet 30 (cSet 30 lo (cAt 26 pl i) (cAt 30 lo x)) x i)))] := hD
    refine lv_aload_n hx hb dX0_move_53 rfl (lv_at hl 2 rfl) ?_
    refine va_get (D := D) (ci := 0) (v := .ref c1) (C := RX0) (T := TX0) (N := 2) hx hb hts in_X0_move_X0 hown hK hP 0 rfl rfl 0 (by decide) (hts (.fieldLink RX0 14 "TypingCoach$Board" "placeOfLetter" "LTypingCoach$Cells;") (List.mem_of_getElem? (i := 2) rfl)) (fun _ h9 => h9) rfl dX0_move_54 ?_
    refine lv_iload_n hx hb dX0_move_57 rfl (lv_at hl 3 rfl) ?_
    refine lv_iload_n hx hb dX0_move_58 rfl (lv_at hl 4 rfl) ?_
    refine wrVv (As := [.int i, .int x]) (rest := []) ⟨hx, hb, hml, hown, hts⟩ (c_X1_set l D z q c1 v1 26 (cSet 26 pl (cAt 30 lo x) (cAt 26 pl i)) i x H.size (Nat.le_of_ble_eq_true rfl)) (cwV 2 hts gX0_move_X1_set rfl rfl rfl hd_X1_set ⟨Nat.le_of_ble_eq_true rfl, Nat.le_of_ble_eq_true rfl⟩) hE hS hA hP hD [1, 2] rfl rfl rfl rfl rfl rfl rfl hl.1 rfl (Nat.le_of_ble_eq_true rfl) dX0_move_59 ⟨(Nat.le_of_ble_eq_true rfl), (Nat.le_of_ble_eq_true rfl)⟩ (fun H locs hP hD hS => ?_)
    have hP : va_P D vwCl [(h, .inr (0, [.ref c1, .ref c2])), (c1, .inr (1, [.ref v1])), (v1, .inl (z 0, 26, .inl (cSet 26 (cSet 26 pl (cAt 30 lo x) (cAt 26 pl i)) i x))), (c2, .inr (1, [.ref v2])), (v2, .inl (z 0, 30, .inl (cSet 30 (cSet 30 lo (cAt 26 pl i) (cAt 30 lo x)) x i)))] H := hP
    have hD : va_D A [(h, .inr (0, [.ref c1, .ref c2])), (c1, .inr (1, [.ref v1])), (v1, .inl (z 0, 26, .inl (cSet 26 (cSet 26 pl (cAt 30 lo x) (cAt 26 pl i)) i x))), (c2, .inr (1, [.ref v2])), (v2, .inl (z 0, 30, .inl (cSet 30 (cSet 30 lo (cAt 26 pl i) (cAt 30 lo x)) x i)))] := hD
    refine lv_iload_n hx hb dX0_move_62 rfl (lv_at hl 1 rfl) ?_
    exact wr_i hx hb hr hlocks hP hD hS dX0_move_63 (by simp only [bMovP, bMovL, if_neg c_1, ↓reduceIte]) (rfl) (Nat.le_refl _) (Nat.le_refl _)
end
section
/-! ===== Arrays.fill, Figures, Lesson, Speeds ===== -/
theorem hd_J7_fill_53178 : yJ7_fill_53178.cls ≠ "java/lang/invoke/MethodHandle" ∧ yJ7_fill_53178.cls ≠ "java/lang/invoke/VarHandle" ∧ (parseMethodDescriptor yJ7_fill_53178.desc).map (fun d => d.parameters.length) = some 2 := by decide +kernel
set_option maxHeartbeats 4000000 in
set_option maxRecDepth 100000 in
theorem c_J7_fill_53178 (l : Launch) (D : va_G) (z : Nat → ClassId) (q : Nat → Nat) (a : Nat) (nf : Nat) (f : Nat → Int32) (x : Int32) (sz : Nat) (hn : nf < 2 ^ 31) : WR l yJ7_fill_53178 wsJ7_fill_53178 ({ frames := 0, cells := 0, slots := 0, locals := 0 } : Room) D z q [.ref a, .int x] [(a, .inl (z 0, nf, .inl f))] sz [(a, .inl (z 0, nf, .inl (fFill f x nf)))] none := by
  refine WR_mk (Qc := fun A => QW D [(a, .inl (z 0, nf, .inl (fFill f x nf)))] A none) (cc := cJ7_fill_53178) (maxL := 4) (ret := none) (by decide) rfl (Nat.le_of_ble_eq_true rfl) ?_
  intro p e s m below meth c A hx hb hr hml hts hown hlocks hin0 H hP hD hE hS hA ls hl
  have hK := hE.1
  have hown : s.vm.findClass RJ7 = some m.cls := hown
  have hl : lv_has ls 4 [(0, .ref a), (1, .int x)] := hl
  refine lv_iconst (v := 0) hx hb dJ7_fill_53178_0 (by decide) ?_
  refine lv_istore_n (lv' := [(2, .int 0), (0, .ref a), (1, .int x)]) hx hb dJ7_fill_53178_1 rfl hl (by decide) rfl (fun ls hl => ?_)
  refine lv_aload_n hx hb dJ7_fill_53178_2 rfl (lv_at hl 1 rfl) ?_
  refine va_alen (v := nI nf) hx hb hK hP 0 0 rfl rfl rfl dJ7_fill_53178_3 ?_
  refine lv_istore_n (lv' := [(3, .int (nI nf)), (2, .int 0), (0, .ref a), (1, .int x)]) hx hb dJ7_fill_53178_4 rfl hl (by decide) rfl (fun ls hl => ?_)
  have loop_1 : ∀ (n : Nat) (j : Nat), j ≤ nf → nf < j + n → ∀ (H : Heap) (locs : List Loc), va_P D vwCl [(a, .inl (z 0, nf, .inl (fFill f x j)))] H → va_D A [(a, .inl (z 0, nf, .inl (fFill f x j)))] → va_S A s.heap H locs → ∀ ls : Array Slot, lv_has ls 4 [(2, .int (nI j)), (0, .ref a), (1, .int x), (3, .int (nI nf))] → W p l e ({ frames := 0, cells := 0, slots := 0, locals := 0 } : Room) s m ([.ref a, .int x] : List Value).toArray below meth c H locs 0 0 (MQ below (QW D [(a, .inl (z 0, nf, .inl (fFill f x nf)))] A none) ([.ref a, .int x] : List Value).toArray s 0 0 A) (F0 m 5 ls []) := by
    intro n
    induction n with
    | zero => intro j hj hf; exact absurd hf (by omega)
    | succ n ih =>
      intro j hj hf H locs hP hD hS ls hl
      refine lv_iload_n hx hb dJ7_fill_53178_5 rfl (lv_at hl 0 rfl) ?_
      refine lv_iload_n hx hb dJ7_fill_53178_6 rfl (lv_at hl 3 rfl) ?_
      refine lv_icmp_ge (tgt := 20) hx hb dJ7_fill_53178_7 (by decide) (fun c_2 => ?_) (fun c_2 => ?_)
      · have hj2 : j = nf := lpx c_2 hj hn rfl
        exact wr_v hx hb hr hlocks hP hD hS dJ7_fill_53178_20 (by rw [hj2]) (Nat.le_refl _) (Nat.le_refl _)
      · have hjl : j < nf := lpn c_2 hj hn rfl
        refine lv_aload_n hx hb dJ7_fill_53178_10 rfl (lv_at hl 1 rfl) ?_
        refine lv_iload_n hx hb dJ7_fill_53178_11 rfl (lv_at hl 0 rfl) ?_
        refine lv_iload_n hx hb dJ7_fill_53178_12 rfl (lv_at hl 2 rfl) ?_
        refine va_iast hx hb hK hP hD hS 0 0 rfl rfl (vp_in_nI hjl hn) dJ7_fill_53178_13 (fun H locs hP hD hS => ?_)
        have hP : va_P D vwCl [(a, .inl (z 0, nf, .inl (upd (fFill f x j) (nI j).toNatClampNeg x)))] H := hP
        have hD : va_D A [(a, .inl (z 0, nf, .inl (upd (fFill f x j) (nI j).toNatClampNeg x)))] := hD
        refine lv_iinc (v := nI (j + 1)) (lv' := [(2, .int (nI (j + 1))), (0, .ref a), (1, .int x), (3, .int (nI nf))]) hx hb dJ7_fill_53178_14 hl (k := 0) rfl (nI_1 j) (by decide) rfl (fun ls hl => ?_)
        refine lv_goto (tgt := 5) hx hb dJ7_fill_53178_17 (by decide) ?_
        rw [show nI j = nI j from rfl, nI_clamp (Nat.lt_trans hjl hn), fFill_s] at hP hD
        exact ih (j + 1) (by omega) (by omega) _ _ hP hD hS ls (lv_sub hl [0, 1, 2, 3] rfl)
  exact loop_1 (nf + 1) 0 (Nat.zero_le _) (by omega) _ _ (by rw [fFill_0]; exact hP) (by rw [fFill_0]; exact hD) hS ls (lv_sub hl [1, 2, 3, 0] rfl)
theorem hd_X2_aged : yX2_aged.cls ≠ "java/lang/invoke/MethodHandle" ∧ yX2_aged.cls ≠ "java/lang/invoke/VarHandle" ∧ (parseMethodDescriptor yX2_aged.desc).map (fun d => d.parameters.length) = some 2 := by decide +kernel
set_option maxHeartbeats 4000000 in
set_option maxRecDepth 100000 in
theorem c_X2_aged (l : Launch) (D : va_G) (z : Nat → ClassId) (q : Nat → Nat) (t : Int32) (mo : Int32)  : RD l yX2_aged wsX2_aged ({ frames := 0, cells := 0, slots := 0, locals := 0 } : Room) D z q [.int t, .int mo] [] (some (.int (fAged t mo))) := by
  refine RD_mk (cc := cX2_aged) (maxL := 2) (ret := (some .int)) (by decide) rfl (Nat.le_of_ble_eq_true rfl) ?_
  intro p e s m below meth c hx hb hr hml hts hown hlocks hP hE hS hA ls hl
  have hK := hE.1
  have hown : s.vm.findClass RX2 = some m.cls := hown
  have hl : lv_has ls 2 [(0, .int t), (1, .int mo)] := hl
  refine lv_iconst (v := 3) hx hb dX2_aged_0 (by decide) ?_
  refine lv_iload_n hx hb dX2_aged_1 rfl (lv_at hl 0 rfl) ?_
  refine lv_imul hx hb dX2_aged_2 ?_
  refine lv_iload_n hx hb dX2_aged_3 rfl (lv_at hl 1 rfl) ?_
  refine lv_iadd hx hb dX2_aged_4 ?_
  refine lv_iconst (v := 4) hx hb dX2_aged_5 (by decide) ?_
  refine lv_idiv hx hb dX2_aged_6 (by decide) ?_
  exact rd_i hx hb hr hlocks dX2_aged_7 (rfl)
theorem hd_X2_pairOf : yX2_pairOf.cls ≠ "java/lang/invoke/MethodHandle" ∧ yX2_pairOf.cls ≠ "java/lang/invoke/VarHandle" ∧ (parseMethodDescriptor yX2_pairOf.desc).map (fun d => d.parameters.length) = some 2 := by decide +kernel
set_option maxHeartbeats 4000000 in
set_option maxRecDepth 100000 in
theorem c_X2_pairOf (l : Launch) (D : va_G) (z : Nat → ClassId) (q : Nat → Nat) (i : Int32) (j : Int32)  : RD l yX2_pairOf wsX2_pairOf ({ frames := 0, cells := 0, slots := 0, locals := 0 } : Room) D z q [.int i, .int j] [] (some (.int (fPair i j))) := by
  refine RD_mk (cc := cX2_pairOf) (maxL := 2) (ret := (some .int)) (by decide) rfl (Nat.le_of_ble_eq_true rfl) ?_
  intro p e s m below meth c hx hb hr hml hts hown hlocks hP hE hS hA ls hl
  have hK := hE.1
  have hown : s.vm.findClass RX2 = some m.cls := hown
  have hl : lv_has ls 2 [(0, .int i), (1, .int j)] := hl
  refine lv_iload_n hx hb dX2_pairOf_0 rfl (lv_at hl 0 rfl) ?_
  refine lv_bipush (v := 26) hx hb dX2_pairOf_1 (by decide) ?_
  refine lv_imul hx hb dX2_pairOf_3 ?_
  refine lv_iload_n hx hb dX2_pairOf_4 rfl (lv_at hl 1 rfl) ?_
  refine lv_iadd hx hb dX2_pairOf_5 ?_
  exact rd_i hx hb hr hlocks dX2_pairOf_6 (rfl)
set_option maxRecDepth 20000 in
theorem in_X2_timeOfPair_X2 : ∀ w ∈ wsX20, w ∈ wsX2_timeOfPair := mem_r _ [12, 13, 14, 15, 16, 17] (by decide +kernel)
theorem hd_X2_timeOfPair : yX2_timeOfPair.cls = RX2 ∧ yX2_timeOfPair.cls ≠ "java/lang/invoke/MethodHandle" ∧ yX2_timeOfPair.cls ≠ "java/lang/invoke/VarHandle" ∧ (parseMethodDescriptor yX2_timeOfPair.desc).map (fun d => d.parameters.length) = some 2 := by decide +kernel
set_option maxHeartbeats 4000000 in
set_option maxRecDepth 100000 in
theorem c_X2_timeOfPair (l : Launch) (D : va_G) (z : Nat → ClassId) (q : Nat → Nat) (h : Nat) (c1 : Nat) (v1 : Nat) (c2 : Nat) (v2 : Nat) (c3 : Nat) (v3 : Nat) (c4 : Nat) (v4 : Nat) (ct : Nat → Int32) (ti : Nat → Int32) (sh : Nat → Int32) (pr : Nat → Int32) (wt : Int32) (wh : Int32) (i : Int32) (j : Int32)  : RD l yX2_timeOfPair wsX2_timeOfPair ({ frames := 1, cells := 0, slots := 0, locals := 21 } : Room) D z q [.ref h, .int i, .int j] [(h, .inr (2, [.ref c1, .ref c2, .ref c3, .ref c4, .int wt, .int wh])), (c1, .inr (1, [.ref v1])), (v1, .inl (z 0, 26, .inl ct)), (c2, .inr (1, [.ref v2])), (v2, .inl (z 0, 26, .inl ti)), (c3, .inr (1, [.ref v3])), (v3, .inl (z 0, 26, .inl sh)), (c4, .inr (1, [.ref v4])), (v4, .inl (z 0, 676, .inl pr))] (some (.int (cAt 676 pr (fPair i j)))) := by
  refine RD_mk (cc := cX2_timeOfPair) (maxL := 3) (ret := (some .int)) (by decide) rfl (Nat.le_of_ble_eq_true rfl) ?_
  intro p e s m below meth c hx hb hr hml hts hown hlocks hP hE hS hA ls hl
  have hK := hE.1
  have hown : s.vm.findClass RX2 = some m.cls := hown
  have hl : lv_has ls 3 [(0, .ref h), (1, .int i), (2, .int j)] := hl
  refine lv_aload_n hx hb dX2_timeOfPair_0 rfl (lv_at hl 0 rfl) ?_
  refine va_get (D := D) (ci := 2) (v := .ref c4) (C := RX2) (T := TX2) (N := 6) hx hb hts in_X2_timeOfPair_X2 hown hK hP 0 rfl rfl 3 (by decide) (hts (.fieldLink RX2 26 "TypingCoach$Figures" "pairTimes" "LTypingCoach$Cells;") (List.mem_of_getElem? (i := 1) rfl)) (fun _ h9 => h9) rfl dX2_timeOfPair_1 ?_
  refine lv_iload_n hx hb dX2_timeOfPair_4 rfl (lv_at hl 1 rfl) ?_
  refine lv_iload_n hx hb dX2_timeOfPair_5 rfl (lv_at hl 2 rfl) ?_
  refine rdS (As := [.int i, .int j]) (rest := [.ref c4]) ⟨hx, hb, hml, hown, hts⟩ (c_X2_pairOf l D z q i j) (va_cwS 2 hts gX2_timeOfPair_X2_pairOf rfl rfl rfl hd_X2_pairOf ⟨Nat.le_of_ble_eq_true rfl, Nat.le_of_ble_eq_true rfl⟩) hE hS hA hP [] rfl rfl hl.1 rfl (Nat.le_of_ble_eq_true rfl) dX2_timeOfPair_6 ⟨(Nat.le_of_ble_eq_true rfl), (Nat.le_of_ble_eq_true rfl)⟩ ?_
  refine rdV (As := [.int (fPair i j)]) (rest := []) ⟨hx, hb, hml, hown, hts⟩ (c_X1_at l D z q c4 v4 676 pr (fPair i j) (Nat.le_of_ble_eq_true rfl)) (cwV 1 hts gX2_timeOfPair_X1_at rfl rfl rfl hd_X1_at ⟨Nat.le_of_ble_eq_true rfl, Nat.le_of_ble_eq_true rfl⟩) hE hS hA hP [7, 8] rfl rfl rfl rfl rfl hl.1 rfl (Nat.le_of_ble_eq_true rfl) dX2_timeOfPair_9 ⟨(Nat.le_of_ble_eq_true rfl), (Nat.le_of_ble_eq_true rfl)⟩ ?_
  exact rd_i hx hb hr hlocks dX2_timeOfPair_12 (rfl)
set_option maxRecDepth 20000 in
theorem in_X2_fulfilsWish_X2 : ∀ w ∈ wsX20, w ∈ wsX2_fulfilsWish := mem_r _ [12, 13, 14, 15, 16, 17] (by decide +kernel)
theorem hd_X2_fulfilsWish : yX2_fulfilsWish.cls = RX2 ∧ yX2_fulfilsWish.cls ≠ "java/lang/invoke/MethodHandle" ∧ yX2_fulfilsWish.cls ≠ "java/lang/invoke/VarHandle" ∧ (parseMethodDescriptor yX2_fulfilsWish.desc).map (fun d => d.parameters.length) = some 1 := by decide +kernel
set_option maxHeartbeats 4000000 in
set_option maxRecDepth 100000 in
theorem c_X2_fulfilsWish (l : Launch) (D : va_G) (z : Nat → ClassId) (q : Nat → Nat) (h : Nat) (c1 : Nat) (v1 : Nat) (c2 : Nat) (v2 : Nat) (c3 : Nat) (v3 : Nat) (c4 : Nat) (v4 : Nat) (ct : Nat → Int32) (ti : Nat → Int32) (sh : Nat → Int32) (pr : Nat → Int32) (wt : Int32) (wh : Int32) (i : Int32)  : RD l yX2_fulfilsWish wsX2_fulfilsWish ({ frames := 1, cells := 0, slots := 0, locals := 21 } : Room) D z q [.ref h, .int i] [(h, .inr (2, [.ref c1, .ref c2, .ref c3, .ref c4, .int wt, .int wh])), (c1, .inr (1, [.ref v1])), (v1, .inl (z 0, 26, .inl ct)), (c2, .inr (1, [.ref v2])), (v2, .inl (z 0, 26, .inl ti)), (c3, .inr (1, [.ref v3])), (v3, .inl (z 0, 26, .inl sh)), (c4, .inr (1, [.ref v4])), (v4, .inl (z 0, 676, .inl pr))] (some (.int (fGood ct ti sh wt wh i))) := by
  refine RD_mk (cc := cX2_fulfilsWish) (maxL := 2) (ret := (some .boolean)) (by decide) rfl (Nat.le_of_ble_eq_true rfl) ?_
  intro p e s m below meth c hx hb hr hml hts hown hlocks hP hE hS hA ls hl
  have hK := hE.1
  have hown : s.vm.findClass RX2 = some m.cls := hown
  have hl : lv_has ls 2 [(0, .ref h), (1, .int i)] := hl
  refine lv_aload_n hx hb dX2_fulfilsWish_0 rfl (lv_at hl 0 rfl) ?_
  refine va_get (D := D) (ci := 2) (v := .ref c1) (C := RX2) (T := TX2) (N := 6) hx hb hts in_X2_fulfilsWish_X2 hown hK hP 0 rfl rfl 0 (by decide) (hts (.fieldLink RX2 14 "TypingCoach$Figures" "counts" "LTypingCoach$Cells;") (List.mem_of_getElem? (i := 1) rfl)) (fun _ h9 => h9) rfl dX2_fulfilsWish_1 ?_
  refine lv_iload_n hx hb dX2_fulfilsWish_4 rfl (lv_at hl 1 rfl) ?_
  refine rdV (As := [.int i]) (rest := []) ⟨hx, hb, hml, hown, hts⟩ (c_X1_at l D z q c1 v1 26 ct i (Nat.le_of_ble_eq_true rfl)) (cwV 1 hts gX2_fulfilsWish_X1_at rfl rfl rfl hd_X1_at ⟨Nat.le_of_ble_eq_true rfl, Nat.le_of_ble_eq_true rfl⟩) hE hS hA hP [1, 2] rfl rfl rfl rfl rfl hl.1 rfl (Nat.le_of_ble_eq_true rfl) dX2_fulfilsWish_5 ⟨(Nat.le_of_ble_eq_true rfl), (Nat.le_of_ble_eq_true rfl)⟩ ?_
  refine lv_iconst (v := 3) hx hb dX2_fulfilsWish_8 (by decide) ?_
  refine lv_icmp_lt (tgt := 46) hx hb dX2_fulfilsWish_9 (by decide) (fun c_1 => ?_) (fun c_1 => ?_)
  · refine lv_iconst (v := 0) hx hb dX2_fulfilsWish_46 (by decide) ?_
    exact rd_z hx hb hr hlocks dX2_fulfilsWish_47 (by decide) (by simp only [fGood, if_pos c_1, ↓reduceIte])
  · refine lv_aload_n hx hb dX2_fulfilsWish_12 rfl (lv_at hl 0 rfl) ?_
    refine va_get (D := D) (ci := 2) (v := .ref c2) (C := RX2) (T := TX2) (N := 6) hx hb hts in_X2_fulfilsWish_X2 hown hK hP 0 rfl rfl 1 (by decide) (hts (.fieldLink RX2 20 "TypingCoach$Figures" "times" "LTypingCoach$Cells;") (List.mem_of_getElem? (i := 2) rfl)) (fun _ h9 => h9) rfl dX2_fulfilsWish_13 ?_
    refine lv_iload_n hx hb dX2_fulfilsWish_16 rfl (lv_at hl 1 rfl) ?_
    refine rdV (As := [.int i]) (rest := []) ⟨hx, hb, hml, hown, hts⟩ (c_X1_at l D z q c2 v2 26 ti i (Nat.le_of_ble_eq_true rfl)) (cwV 1 hts gX2_fulfilsWish_X1_at rfl rfl rfl hd_X1_at ⟨Nat.le_of_ble_eq_true rfl, Nat.le_of_ble_eq_true rfl⟩) hE hS hA hP [3, 4] rfl rfl rfl rfl rfl hl.1 rfl (Nat.le_of_ble_eq_true rfl) dX2_fulfilsWish_17 ⟨(Nat.le_of_ble_eq_true rfl), (Nat.le_of_ble_eq_true rfl)⟩ ?_
    refine lv_aload_n hx hb dX2_fulfilsWish_20 rfl (lv_at hl 0 rfl) ?_
    refine va_get (D := D) (ci := 2) (v := .int wt) (C := RX2) (T := TX2) (N := 6) hx hb hts in_X2_fulfilsWish_X2 hown hK hP 0 rfl rfl 4 (by decide) (hts (.fieldLink RX2 29 "TypingCoach$Figures" "wishedTime" "I") (List.mem_of_getElem? (i := 3) rfl)) (fun _ h9 => h9) rfl dX2_fulfilsWish_21 ?_
    refine lv_icmp_gt (tgt := 46) hx hb dX2_fulfilsWish_24 (by decide) (fun c_2 => ?_) (fun c_2 => ?_)
    · refine lv_iconst (v := 0) hx hb dX2_fulfilsWish_46 (by decide) ?_
      exact rd_z hx hb hr hlocks dX2_fulfilsWish_47 (by decide) (by simp only [fGood, if_neg c_1, if_pos c_2, ↓reduceIte])
    · refine lv_aload_n hx hb dX2_fulfilsWish_27 rfl (lv_at hl 0 rfl) ?_
      refine va_get (D := D) (ci := 2) (v := .ref c3) (C := RX2) (T := TX2) (N := 6) hx hb hts in_X2_fulfilsWish_X2 hown hK hP 0 rfl rfl 2 (by decide) (hts (.fieldLink RX2 23 "TypingCoach$Figures" "shares" "LTypingCoach$Cells;") (List.mem_of_getElem? (i := 4) rfl)) (fun _ h9 => h9) rfl dX2_fulfilsWish_28 ?_
      refine lv_iload_n hx hb dX2_fulfilsWish_31 rfl (lv_at hl 1 rfl) ?_
      refine rdV (As := [.int i]) (rest := []) ⟨hx, hb, hml, hown, hts⟩ (c_X1_at l D z q c3 v3 26 sh i (Nat.le_of_ble_eq_true rfl)) (cwV 1 hts gX2_fulfilsWish_X1_at rfl rfl rfl hd_X1_at ⟨Nat.le_of_ble_eq_true rfl, Nat.le_of_ble_eq_true rfl⟩) hE hS hA hP [5, 6] rfl rfl rfl rfl rfl hl.1 rfl (Nat.le_of_ble_eq_true rfl) dX2_fulfilsWish_32 ⟨(Nat.le_of_ble_eq_true rfl), (Nat.le_of_ble_eq_true rfl)⟩ ?_
      refine lv_aload_n hx hb dX2_fulfilsWish_35 rfl (lv_at hl 0 rfl) ?_
      refine va_get (D := D) (ci := 2) (v := .int wh) (C := RX2) (T := TX2) (N := 6) hx hb hts in_X2_fulfilsWish_X2 hown hK hP 0 rfl rfl 5 (by decide) (hts (.fieldLink RX2 33 "TypingCoach$Figures" "wishedShare" "I") (List.mem_of_getElem? (i := 5) rfl)) (fun _ h9 => h9) rfl dX2_fulfilsWish_36 ?_
      refine lv_icmp_gt (tgt := 46) hx hb dX2_fulfilsWish_39 (by decide) (fun c_3 => ?_) (fun c_3 => ?_)
      · refine lv_iconst (v := 0) hx hb dX2_fulfilsWish_46 (by decide) ?_
        exact rd_z hx hb hr hlocks dX2_fulfilsWish_47 (by decide) (by simp only [fGood, if_neg c_1, if_neg c_2, if_pos c_3, ↓reduceIte])
      · refine lv_iconst (v := 1) hx hb dX2_fulfilsWish_42 (by decide) ?_
        refine lv_goto (tgt := 47) hx hb dX2_fulfilsWish_43 (by decide) ?_
        exact rd_z hx hb hr hlocks dX2_fulfilsWish_47 (by decide) (by simp only [fGood, if_neg c_1, if_neg c_2, if_neg c_3, ↓reduceIte])
set_option maxRecDepth 20000 in
theorem in_X2_mustGoOut_X2 : ∀ w ∈ wsX20, w ∈ wsX2_mustGoOut := mem_r _ [9, 10, 11, 12, 13, 14] (by decide +kernel)
theorem hd_X2_mustGoOut : yX2_mustGoOut.cls = RX2 ∧ yX2_mustGoOut.cls ≠ "java/lang/invoke/MethodHandle" ∧ yX2_mustGoOut.cls ≠ "java/lang/invoke/VarHandle" ∧ (parseMethodDescriptor yX2_mustGoOut.desc).map (fun d => d.parameters.length) = some 1 := by decide +kernel
set_option maxHeartbeats 4000000 in
set_option maxRecDepth 100000 in
theorem c_X2_mustGoOut (l : Launch) (D : va_G) (z : Nat → ClassId) (q : Nat → Nat) (h : Nat) (c1 : Nat) (v1 : Nat) (c2 : Nat) (v2 : Nat) (c3 : Nat) (v3 : Nat) (c4 : Nat) (v4 : Nat) (ct : Nat → Int32) (ti : Nat → Int32) (sh : Nat → Int32) (pr : Nat → Int32) (wt : Int32) (wh : Int32) (i : Int32)  : RD l yX2_mustGoOut wsX2_mustGoOut ({ frames := 1, cells := 0, slots := 0, locals := 21 } : Room) D z q [.ref h, .int i] [(h, .inr (2, [.ref c1, .ref c2, .ref c3, .ref c4, .int wt, .int wh])), (c1, .inr (1, [.ref v1])), (v1, .inl (z 0, 26, .inl ct)), (c2, .inr (1, [.ref v2])), (v2, .inl (z 0, 26, .inl ti)), (c3, .inr (1, [.ref v3])), (v3, .inl (z 0, 26, .inl sh)), (c4, .inr (1, [.ref v4])), (v4, .inl (z 0, 676, .inl pr))] (some (.int (fOut ct sh i))) := by
  refine RD_mk (cc := cX2_mustGoOut) (maxL := 2) (ret := (some .boolean)) (by decide) rfl (Nat.le_of_ble_eq_true rfl) ?_
  intro p e s m below meth c hx hb hr hml hts hown hlocks hP hE hS hA ls hl
  have hK := hE.1
  have hown : s.vm.findClass RX2 = some m.cls := hown
  have hl : lv_has ls 2 [(0, .ref h), (1, .int i)] := hl
  refine lv_aload_n hx hb dX2_mustGoOut_0 rfl (lv_at hl 0 rfl) ?_
  refine va_get (D := D) (ci := 2) (v := .ref c1) (C := RX2) (T := TX2) (N := 6) hx hb hts in_X2_mustGoOut_X2 hown hK hP 0 rfl rfl 0 (by decide) (hts (.fieldLink RX2 14 "TypingCoach$Figures" "counts" "LTypingCoach$Cells;") (List.mem_of_getElem? (i := 1) rfl)) (fun _ h9 => h9) rfl dX2_mustGoOut_1 ?_
  refine lv_iload_n hx hb dX2_mustGoOut_4 rfl (lv_at hl 1 rfl) ?_
  refine rdV (As := [.int i]) (rest := []) ⟨hx, hb, hml, hown, hts⟩ (c_X1_at l D z q c1 v1 26 ct i (Nat.le_of_ble_eq_true rfl)) (cwV 1 hts gX2_mustGoOut_X1_at rfl rfl rfl hd_X1_at ⟨Nat.le_of_ble_eq_true rfl, Nat.le_of_ble_eq_true rfl⟩) hE hS hA hP [1, 2] rfl rfl rfl rfl rfl hl.1 rfl (Nat.le_of_ble_eq_true rfl) dX2_mustGoOut_5 ⟨(Nat.le_of_ble_eq_true rfl), (Nat.le_of_ble_eq_true rfl)⟩ ?_
  refine lv_iconst (v := 3) hx hb dX2_mustGoOut_8 (by decide) ?_
  refine lv_icmp_lt (tgt := 30) hx hb dX2_mustGoOut_9 (by decide) (fun c_1 => ?_) (fun c_1 => ?_)
  · refine lv_iconst (v := 0) hx hb dX2_mustGoOut_30 (by decide) ?_
    exact rd_z hx hb hr hlocks dX2_mustGoOut_31 (by decide) (by simp only [fOut, if_pos c_1, ↓reduceIte])
  · refine lv_aload_n hx hb dX2_mustGoOut_12 rfl (lv_at hl 0 rfl) ?_
    refine va_get (D := D) (ci := 2) (v := .ref c3) (C := RX2) (T := TX2) (N := 6) hx hb hts in_X2_mustGoOut_X2 hown hK hP 0 rfl rfl 2 (by decide) (hts (.fieldLink RX2 23 "TypingCoach$Figures" "shares" "LTypingCoach$Cells;") (List.mem_of_getElem? (i := 2) rfl)) (fun _ h9 => h9) rfl dX2_mustGoOut_13 ?_
    refine lv_iload_n hx hb dX2_mustGoOut_16 rfl (lv_at hl 1 rfl) ?_
    refine rdV (As := [.int i]) (rest := []) ⟨hx, hb, hml, hown, hts⟩ (c_X1_at l D z q c3 v3 26 sh i (Nat.le_of_ble_eq_true rfl)) (cwV 1 hts gX2_mustGoOut_X1_at rfl rfl rfl hd_X1_at ⟨Nat.le_of_ble_eq_true rfl, Nat.le_of_ble_eq_true rfl⟩) hE hS hA hP [5, 6] rfl rfl rfl rfl rfl hl.1 rfl (Nat.le_of_ble_eq_true rfl) dX2_mustGoOut_17 ⟨(Nat.le_of_ble_eq_true rfl), (Nat.le_of_ble_eq_true rfl)⟩ ?_
    refine lv_sipush (v := 5000) hx hb dX2_mustGoOut_20 (by decide) ?_
    refine lv_icmp_le (tgt := 30) hx hb dX2_mustGoOut_23 (by decide) (fun c_2 => ?_) (fun c_2 => ?_)
    · refine lv_iconst (v := 0) hx hb dX2_mustGoOut_30 (by decide) ?_
      exact rd_z hx hb hr hlocks dX2_mustGoOut_31 (by decide) (by simp only [fOut, if_neg c_1, if_pos c_2, ↓reduceIte])
    · refine lv_iconst (v := 1) hx hb dX2_mustGoOut_26 (by decide) ?_
      refine lv_goto (tgt := 31) hx hb dX2_mustGoOut_27 (by decide) ?_
      exact rd_z hx hb hr hlocks dX2_mustGoOut_31 (by decide) (by simp only [fOut, if_neg c_1, if_neg c_2, ↓reduceIte])
set_option maxRecDepth 20000 in
theorem in_X2_isWeaker_X2 : ∀ w ∈ wsX20, w ∈ wsX2_isWeaker := mem_r _ [9, 10, 11, 12, 13, 14] (by decide +kernel)
theorem hd_X2_isWeaker : yX2_isWeaker.cls = RX2 ∧ yX2_isWeaker.cls ≠ "java/lang/invoke/MethodHandle" ∧ yX2_isWeaker.cls ≠ "java/lang/invoke/VarHandle" ∧ (parseMethodDescriptor yX2_isWeaker.desc).map (fun d => d.parameters.length) = some 2 := by decide +kernel
set_option maxHeartbeats 4000000 in
set_option maxRecDepth 100000 in
theorem c_X2_isWeaker (l : Launch) (D : va_G) (z : Nat → ClassId) (q : Nat → Nat) (h : Nat) (c1 : Nat) (v1 : Nat) (c2 : Nat) (v2 : Nat) (c3 : Nat) (v3 : Nat) (c4 : Nat) (v4 : Nat) (ct : Nat → Int32) (ti : Nat → Int32) (sh : Nat → Int32) (pr : Nat → Int32) (wt : Int32) (wh : Int32) (i : Int32) (j : Int32)  : RD l yX2_isWeaker wsX2_isWeaker ({ frames := 1, cells := 0, slots := 0, locals := 21 } : Room) D z q [.ref h, .int i, .int j] [(h, .inr (2, [.ref c1, .ref c2, .ref c3, .ref c4, .int wt, .int wh])), (c1, .inr (1, [.ref v1])), (v1, .inl (z 0, 26, .inl ct)), (c2, .inr (1, [.ref v2])), (v2, .inl (z 0, 26, .inl ti)), (c3, .inr (1, [.ref v3])), (v3, .inl (z 0, 26, .inl sh)), (c4, .inr (1, [.ref v4])), (v4, .inl (z 0, 676, .inl pr))] (some (.int (fWeak ti sh i j))) := by
  refine RD_mk (cc := cX2_isWeaker) (maxL := 3) (ret := (some .boolean)) (by decide) rfl (Nat.le_of_ble_eq_true rfl) ?_
  intro p e s m below meth c hx hb hr hml hts hown hlocks hP hE hS hA ls hl
  have hK := hE.1
  have hown : s.vm.findClass RX2 = some m.cls := hown
  have hl : lv_has ls 3 [(0, .ref h), (1, .int i), (2, .int j)] := hl
  refine lv_aload_n hx hb dX2_isWeaker_0 rfl (lv_at hl 0 rfl) ?_
  refine va_get (D := D) (ci := 2) (v := .ref c3) (C := RX2) (T := TX2) (N := 6) hx hb hts in_X2_isWeaker_X2 hown hK hP 0 rfl rfl 2 (by decide) (hts (.fieldLink RX2 23 "TypingCoach$Figures" "shares" "LTypingCoach$Cells;") (List.mem_of_getElem? (i := 1) rfl)) (fun _ h9 => h9) rfl dX2_isWeaker_1 ?_
  refine lv_iload_n hx hb dX2_isWeaker_4 rfl (lv_at hl 1 rfl) ?_
  refine rdV (As := [.int i]) (rest := []) ⟨hx, hb, hml, hown, hts⟩ (c_X1_at l D z q c3 v3 26 sh i (Nat.le_of_ble_eq_true rfl)) (cwV 1 hts gX2_isWeaker_X1_at rfl rfl rfl hd_X1_at ⟨Nat.le_of_ble_eq_true rfl, Nat.le_of_ble_eq_true rfl⟩) hE hS hA hP [5, 6] rfl rfl rfl rfl rfl hl.1 rfl (Nat.le_of_ble_eq_true rfl) dX2_isWeaker_5 ⟨(Nat.le_of_ble_eq_true rfl), (Nat.le_of_ble_eq_true rfl)⟩ ?_
  refine lv_aload_n hx hb dX2_isWeaker_8 rfl (lv_at hl 0 rfl) ?_
  refine va_get (D := D) (ci := 2) (v := .ref c3) (C := RX2) (T := TX2) (N := 6) hx hb hts in_X2_isWeaker_X2 hown hK hP 0 rfl rfl 2 (by decide) (hts (.fieldLink RX2 23 "TypingCoach$Figures" "shares" "LTypingCoach$Cells;") (List.mem_of_getElem? (i := 1) rfl)) (fun _ h9 => h9) rfl dX2_isWeaker_9 ?_
  refine lv_iload_n hx hb dX2_isWeaker_12 rfl (lv_at hl 2 rfl) ?_
  refine rdV (As := [.int j]) (rest := [.int (cAt 26 sh i)]) ⟨hx, hb, hml, hown, hts⟩ (c_X1_at l D z q c3 v3 26 sh j (Nat.le_of_ble_eq_true rfl)) (cwV 1 hts gX2_isWeaker_X1_at rfl rfl rfl hd_X1_at ⟨Nat.le_of_ble_eq_true rfl, Nat.le_of_ble_eq_true rfl⟩) hE hS hA hP [5, 6] rfl rfl rfl rfl rfl hl.1 rfl (Nat.le_of_ble_eq_true rfl) dX2_isWeaker_13 ⟨(Nat.le_of_ble_eq_true rfl), (Nat.le_of_ble_eq_true rfl)⟩ ?_
  refine lv_icmp_eq (tgt := 44) hx hb dX2_isWeaker_16 (by decide) (fun c_1 => ?_) (fun c_1 => ?_)
  · refine lv_aload_n hx hb dX2_isWeaker_44 rfl (lv_at hl 0 rfl) ?_
    refine va_get (D := D) (ci := 2) (v := .ref c2) (C := RX2) (T := TX2) (N := 6) hx hb hts in_X2_isWeaker_X2 hown hK hP 0 rfl rfl 1 (by decide) (hts (.fieldLink RX2 20 "TypingCoach$Figures" "times" "LTypingCoach$Cells;") (List.mem_of_getElem? (i := 2) rfl)) (fun _ h9 => h9) rfl dX2_isWeaker_45 ?_
    refine lv_iload_n hx hb dX2_isWeaker_48 rfl (lv_at hl 1 rfl) ?_
    refine rdV (As := [.int i]) (rest := []) ⟨hx, hb, hml, hown, hts⟩ (c_X1_at l D z q c2 v2 26 ti i (Nat.le_of_ble_eq_true rfl)) (cwV 1 hts gX2_isWeaker_X1_at rfl rfl rfl hd_X1_at ⟨Nat.le_of_ble_eq_true rfl, Nat.le_of_ble_eq_true rfl⟩) hE hS hA hP [3, 4] rfl rfl rfl rfl rfl hl.1 rfl (Nat.le_of_ble_eq_true rfl) dX2_isWeaker_49 ⟨(Nat.le_of_ble_eq_true rfl), (Nat.le_of_ble_eq_true rfl)⟩ ?_
    refine lv_aload_n hx hb dX2_isWeaker_52 rfl (lv_at hl 0 rfl) ?_
    refine va_get (D := D) (ci := 2) (v := .ref c2) (C := RX2) (T := TX2) (N := 6) hx hb hts in_X2_isWeaker_X2 hown hK hP 0 rfl rfl 1 (by decide) (hts (.fieldLink RX2 20 "TypingCoach$Figures" "times" "LTypingCoach$Cells;") (List.mem_of_getElem? (i := 2) rfl)) (fun _ h9 => h9) rfl dX2_isWeaker_53 ?_
    refine lv_iload_n hx hb dX2_isWeaker_56 rfl (lv_at hl 2 rfl) ?_
    refine rdV (As := [.int j]) (rest := [.int (cAt 26 ti i)]) ⟨hx, hb, hml, hown, hts⟩ (c_X1_at l D z q c2 v2 26 ti j (Nat.le_of_ble_eq_true rfl)) (cwV 1 hts gX2_isWeaker_X1_at rfl rfl rfl hd_X1_at ⟨Nat.le_of_ble_eq_true rfl, Nat.le_of_ble_eq_true rfl⟩) hE hS hA hP [3, 4] rfl rfl rfl rfl rfl hl.1 rfl (Nat.le_of_ble_eq_true rfl) dX2_isWeaker_57 ⟨(Nat.le_of_ble_eq_true rfl), (Nat.le_of_ble_eq_true rfl)⟩ ?_
    refine lv_icmp_le (tgt := 67) hx hb dX2_isWeaker_60 (by decide) (fun c_2 => ?_) (fun c_2 => ?_)
    · refine lv_iconst (v := 0) hx hb dX2_isWeaker_67 (by decide) ?_
      exact rd_z hx hb hr hlocks dX2_isWeaker_68 (by decide) (by simp only [fWeak, if_pos c_1, if_pos c_2, ↓reduceIte])
    · refine lv_iconst (v := 1) hx hb dX2_isWeaker_63 (by decide) ?_
      refine lv_goto (tgt := 68) hx hb dX2_isWeaker_64 (by decide) ?_
      exact rd_z hx hb hr hlocks dX2_isWeaker_68 (by decide) (by simp only [fWeak, if_pos c_1, if_neg c_2, ↓reduceIte])
  · refine lv_aload_n hx hb dX2_isWeaker_19 rfl (lv_at hl 0 rfl) ?_
    refine va_get (D := D) (ci := 2) (v := .ref c3) (C := RX2) (T := TX2) (N := 6) hx hb hts in_X2_isWeaker_X2 hown hK hP 0 rfl rfl 2 (by decide) (hts (.fieldLink RX2 23 "TypingCoach$Figures" "shares" "LTypingCoach$Cells;") (List.mem_of_getElem? (i := 1) rfl)) (fun _ h9 => h9) rfl dX2_isWeaker_20 ?_
    refine lv_iload_n hx hb dX2_isWeaker_23 rfl (lv_at hl 1 rfl) ?_
    refine rdV (As := [.int i]) (rest := []) ⟨hx, hb, hml, hown, hts⟩ (c_X1_at l D z q c3 v3 26 sh i (Nat.le_of_ble_eq_true rfl)) (cwV 1 hts gX2_isWeaker_X1_at rfl rfl rfl hd_X1_at ⟨Nat.le_of_ble_eq_true rfl, Nat.le_of_ble_eq_true rfl⟩) hE hS hA hP [5, 6] rfl rfl rfl rfl rfl hl.1 rfl (Nat.le_of_ble_eq_true rfl) dX2_isWeaker_24 ⟨(Nat.le_of_ble_eq_true rfl), (Nat.le_of_ble_eq_true rfl)⟩ ?_
    refine lv_aload_n hx hb dX2_isWeaker_27 rfl (lv_at hl 0 rfl) ?_
    refine va_get (D := D) (ci := 2) (v := .ref c3) (C := RX2) (T := TX2) (N := 6) hx hb hts in_X2_isWeaker_X2 hown hK hP 0 rfl rfl 2 (by decide) (hts (.fieldLink RX2 23 "TypingCoach$Figures" "shares" "LTypingCoach$Cells;") (List.mem_of_getElem? (i := 1) rfl)) (fun _ h9 => h9) rfl dX2_isWeaker_28 ?_
    refine lv_iload_n hx hb dX2_isWeaker_31 rfl (lv_at hl 2 rfl) ?_
    refine rdV (As := [.int j]) (rest := [.int (cAt 26 sh i)]) ⟨hx, hb, hml, hown, hts⟩ (c_X1_at l D z q c3 v3 26 sh j (Nat.le_of_ble_eq_true rfl)) (cwV 1 hts gX2_isWeaker_X1_at rfl rfl rfl hd_X1_at ⟨Nat.le_of_ble_eq_true rfl, Nat.le_of_ble_eq_true rfl⟩) hE hS hA hP [5, 6] rfl rfl rfl rfl rfl hl.1 rfl (Nat.le_of_ble_eq_true rfl) dX2_isWeaker_32 ⟨(Nat.le_of_ble_eq_true rfl), (Nat.le_of_ble_eq_true rfl)⟩ ?_
    refine lv_icmp_le (tgt := 42) hx hb dX2_isWeaker_35 (by decide) (fun c_3 => ?_) (fun c_3 => ?_)
    · refine lv_iconst (v := 0) hx hb dX2_isWeaker_42 (by decide) ?_
      exact rd_z hx hb hr hlocks dX2_isWeaker_43 (by decide) (by simp only [fWeak, if_neg c_1, if_pos c_3, ↓reduceIte])
    · refine lv_iconst (v := 1) hx hb dX2_isWeaker_38 (by decide) ?_
      refine lv_goto (tgt := 43) hx hb dX2_isWeaker_39 (by decide) ?_
      exact rd_z hx hb hr hlocks dX2_isWeaker_43 (by decide) (by simp only [fWeak, if_neg c_1, if_neg c_3, ↓reduceIte])
set_option maxRecDepth 20000 in
theorem in_X2_learn_X2 : ∀ w ∈ wsX20, w ∈ wsX2_learn := mem_r _ [24, 25, 26, 27, 28, 29] (by decide +kernel)
theorem hd_X2_learn : yX2_learn.cls = RX2 ∧ yX2_learn.cls ≠ "java/lang/invoke/MethodHandle" ∧ yX2_learn.cls ≠ "java/lang/invoke/VarHandle" ∧ (parseMethodDescriptor yX2_learn.desc).map (fun d => d.parameters.length) = some 3 := by decide +kernel
set_option maxHeartbeats 4000000 in
set_option maxRecDepth 100000 in
theorem c_X2_learn (l : Launch) (D : va_G) (z : Nat → ClassId) (q : Nat → Nat) (h : Nat) (c1 : Nat) (v1 : Nat) (c2 : Nat) (v2 : Nat) (c3 : Nat) (v3 : Nat) (c4 : Nat) (v4 : Nat) (ct : Nat → Int32) (ti : Nat → Int32) (sh : Nat → Int32) (pr : Nat → Int32) (wt : Int32) (wh : Int32) (i : Int32) (mo : Int32) (w : Int32) (sz : Nat)  : WR l yX2_learn wsX2_learn ({ frames := 2, cells := 0, slots := 0, locals := 44 } : Room) D z q [.ref h, .int i, .int mo, .int w] [(h, .inr (2, [.ref c1, .ref c2, .ref c3, .ref c4, .int wt, .int wh])), (c1, .inr (1, [.ref v1])), (v1, .inl (z 0, 26, .inl ct)), (c2, .inr (1, [.ref v2])), (v2, .inl (z 0, 26, .inl ti)), (c3, .inr (1, [.ref v3])), (v3, .inl (z 0, 26, .inl sh)), (c4, .inr (1, [.ref v4])), (v4, .inl (z 0, 676, .inl pr))] sz [(h, .inr (2, [.ref c1, .ref c2, .ref c3, .ref c4, .int wt, .int wh])), (c1, .inr (1, [.ref v1])), (v1, .inl (z 0, 26, .inl (cSet 26 ct i (cAt 26 ct i + 1)))), (c2, .inr (1, [.ref v2])), (v2, .inl (z 0, 26, .inl (cSet 26 ti i (fAged (cAt 26 ti i) mo)))), (c3, .inr (1, [.ref v3])), (v3, .inl (z 0, 26, .inl (cSet 26 sh i (fShr (cAt 26 sh i) w)))), (c4, .inr (1, [.ref v4])), (v4, .inl (z 0, 676, .inl pr))] none := by
  refine WR_mk (Qc := fun A => QW D [(h, .inr (2, [.ref c1, .ref c2, .ref c3, .ref c4, .int wt, .int wh])), (c1, .inr (1, [.ref v1])), (v1, .inl (z 0, 26, .inl (cSet 26 ct i (cAt 26 ct i + 1)))), (c2, .inr (1, [.ref v2])), (v2, .inl (z 0, 26, .inl (cSet 26 ti i (fAged (cAt 26 ti i) mo)))), (c3, .inr (1, [.ref v3])), (v3, .inl (z 0, 26, .inl (cSet 26 sh i (fShr (cAt 26 sh i) w)))), (c4, .inr (1, [.ref v4])), (v4, .inl (z 0, 676, .inl pr))] A none) (cc := cX2_learn) (maxL := 4) (ret := none) (by decide) rfl (Nat.le_of_ble_eq_true rfl) ?_
  intro p e s m below meth c A hx hb hr hml hts hown hlocks hin0 H hP hD hE hS hA ls hl
  have hK := hE.1
  have hown : s.vm.findClass RX2 = some m.cls := hown
  have hl : lv_has ls 4 [(0, .ref h), (1, .int i), (2, .int mo), (3, .int w)] := hl
  refine lv_aload_n hx hb dX2_learn_0 rfl (lv_at hl 0 rfl) ?_
  refine va_get (D := D) (ci := 2) (v := .ref c1) (C := RX2) (T := TX2) (N := 6) hx hb hts in_X2_learn_X2 hown hK hP 0 rfl rfl 0 (by decide) (hts (.fieldLink RX2 14 "TypingCoach$Figures" "counts" "LTypingCoach$Cells;") (List.mem_of_getElem? (i := 1) rfl)) (fun _ h9 => h9) rfl dX2_learn_1 ?_
  refine lv_iload_n hx hb dX2_learn_4 rfl (lv_at hl 1 rfl) ?_
  refine lv_iconst (v := 1) hx hb dX2_learn_5 (by decide) ?_
  refine wrVv (As := [.int i, .int 1]) (rest := []) ⟨hx, hb, hml, hown, hts⟩ (c_X1_add l D z q c1 v1 26 ct i 1 H.size (Nat.le_of_ble_eq_true rfl)) (cwV 2 hts gX2_learn_X1_add rfl rfl rfl hd_X1_add ⟨Nat.le_of_ble_eq_true rfl, Nat.le_of_ble_eq_true rfl⟩) hE hS hA hP hD [1, 2] rfl rfl rfl rfl rfl rfl rfl hl.1 rfl (Nat.le_of_ble_eq_true rfl) dX2_learn_6 ⟨(Nat.le_of_ble_eq_true rfl), (Nat.le_of_ble_eq_true rfl)⟩ (fun H locs hP hD hS => ?_)
  have hP : va_P D vwCl [(h, .inr (2, [.ref c1, .ref c2, .ref c3, .ref c4, .int wt, .int wh])), (c1, .inr (1, [.ref v1])), (v1, .inl (z 0, 26, .inl (cSet 26 ct i (cAt 26 ct i + 1)))), (c2, .inr (1, [.ref v2])), (v2, .inl (z 0, 26, .inl ti)), (c3, .inr (1, [.ref v3])), (v3, .inl (z 0, 26, .inl sh)), (c4, .inr (1, [.ref v4])), (v4, .inl (z 0, 676, .inl pr))] H := hP
  have hD : va_D A [(h, .inr (2, [.ref c1, .ref c2, .ref c3, .ref c4, .int wt, .int wh])), (c1, .inr (1, [.ref v1])), (v1, .inl (z 0, 26, .inl (cSet 26 ct i (cAt 26 ct i + 1)))), (c2, .inr (1, [.ref v2])), (v2, .inl (z 0, 26, .inl ti)), (c3, .inr (1, [.ref v3])), (v3, .inl (z 0, 26, .inl sh)), (c4, .inr (1, [.ref v4])), (v4, .inl (z 0, 676, .inl pr))] := hD
  refine lv_aload_n hx hb dX2_learn_9 rfl (lv_at hl 0 rfl) ?_
  refine va_get (D := D) (ci := 2) (v := .ref c2) (C := RX2) (T := TX2) (N := 6) hx hb hts in_X2_learn_X2 hown hK hP 0 rfl rfl 1 (by decide) (hts (.fieldLink RX2 20 "TypingCoach$Figures" "times" "LTypingCoach$Cells;") (List.mem_of_getElem? (i := 2) rfl)) (fun _ h9 => h9) rfl dX2_learn_10 ?_
  refine lv_iload_n hx hb dX2_learn_13 rfl (lv_at hl 1 rfl) ?_
  refine lv_aload_n hx hb dX2_learn_14 rfl (lv_at hl 0 rfl) ?_
  refine va_get (D := D) (ci := 2) (v := .ref c2) (C := RX2) (T := TX2) (N := 6) hx hb hts in_X2_learn_X2 hown hK hP 0 rfl rfl 1 (by decide) (hts (.fieldLink RX2 20 "TypingCoach$Figures" "times" "LTypingCoach$Cells;") (List.mem_of_getElem? (i := 2) rfl)) (fun _ h9 => h9) rfl dX2_learn_15 ?_
  refine lv_iload_n hx hb dX2_learn_18 rfl (lv_at hl 1 rfl) ?_
  refine rdV (As := [.int i]) (rest := [.int i, .ref c2]) ⟨hx, hb, hml, hown, hts⟩ (c_X1_at l D z q c2 v2 26 ti i (Nat.le_of_ble_eq_true rfl)) (cwV 1 hts gX2_learn_X1_at rfl rfl rfl hd_X1_at ⟨Nat.le_of_ble_eq_true rfl, Nat.le_of_ble_eq_true rfl⟩) hE hS hA hP [3, 4] rfl rfl rfl rfl rfl hl.1 rfl (Nat.le_of_ble_eq_true rfl) dX2_learn_19 ⟨(Nat.le_of_ble_eq_true rfl), (Nat.le_of_ble_eq_true rfl)⟩ ?_
  refine lv_iload_n hx hb dX2_learn_22 rfl (lv_at hl 2 rfl) ?_
  refine rdS (As := [.int (cAt 26 ti i), .int mo]) (rest := [.int i, .ref c2]) ⟨hx, hb, hml, hown, hts⟩ (c_X2_aged l D z q (cAt 26 ti i) mo) (va_cwS 2 hts gX2_learn_X2_aged rfl rfl rfl hd_X2_aged ⟨Nat.le_of_ble_eq_true rfl, Nat.le_of_ble_eq_true rfl⟩) hE hS hA hP [] rfl rfl hl.1 rfl (Nat.le_of_ble_eq_true rfl) dX2_learn_23 ⟨(Nat.le_of_ble_eq_true rfl), (Nat.le_of_ble_eq_true rfl)⟩ ?_
  refine wrVv (As := [.int i, .int (fAged (cAt 26 ti i) mo)]) (rest := []) ⟨hx, hb, hml, hown, hts⟩ (c_X1_set l D z q c2 v2 26 ti i (fAged (cAt 26 ti i) mo) H.size (Nat.le_of_ble_eq_true rfl)) (cwV 2 hts gX2_learn_X1_set rfl rfl rfl hd_X1_set ⟨Nat.le_of_ble_eq_true rfl, Nat.le_of_ble_eq_true rfl⟩) hE hS hA hP hD [3, 4] rfl rfl rfl rfl rfl rfl rfl hl.1 rfl (Nat.le_of_ble_eq_true rfl) dX2_learn_26 ⟨(Nat.le_of_ble_eq_true rfl), (Nat.le_of_ble_eq_true rfl)⟩ (fun H locs hP hD hS => ?_)
  have hP : va_P D vwCl [(h, .inr (2, [.ref c1, .ref c2, .ref c3, .ref c4, .int wt, .int wh])), (c1, .inr (1, [.ref v1])), (v1, .inl (z 0, 26, .inl (cSet 26 ct i (cAt 26 ct i + 1)))), (c2, .inr (1, [.ref v2])), (v2, .inl (z 0, 26, .inl (cSet 26 ti i (fAged (cAt 26 ti i) mo)))), (c3, .inr (1, [.ref v3])), (v3, .inl (z 0, 26, .inl sh)), (c4, .inr (1, [.ref v4])), (v4, .inl (z 0, 676, .inl pr))] H := hP
  have hD : va_D A [(h, .inr (2, [.ref c1, .ref c2, .ref c3, .ref c4, .int wt, .int wh])), (c1, .inr (1, [.ref v1])), (v1, .inl (z 0, 26, .inl (cSet 26 ct i (cAt 26 ct i + 1)))), (c2, .inr (1, [.ref v2])), (v2, .inl (z 0, 26, .inl (cSet 26 ti i (fAged (cAt 26 ti i) mo)))), (c3, .inr (1, [.ref v3])), (v3, .inl (z 0, 26, .inl sh)), (c4, .inr (1, [.ref v4])), (v4, .inl (z 0, 676, .inl pr))] := hD
  refine lv_aload_n hx hb dX2_learn_29 rfl (lv_at hl 0 rfl) ?_
  refine va_get (D := D) (ci := 2) (v := .ref c3) (C := RX2) (T := TX2) (N := 6) hx hb hts in_X2_learn_X2 hown hK hP 0 rfl rfl 2 (by decide) (hts (.fieldLink RX2 23 "TypingCoach$Figures" "shares" "LTypingCoach$Cells;") (List.mem_of_getElem? (i := 3) rfl)) (fun _ h9 => h9) rfl dX2_learn_30 ?_
  refine lv_iload_n hx hb dX2_learn_33 rfl (lv_at hl 1 rfl) ?_
  refine lv_bipush (v := 7) hx hb dX2_learn_34 (by decide) ?_
  refine lv_aload_n hx hb dX2_learn_36 rfl (lv_at hl 0 rfl) ?_
  refine va_get (D := D) (ci := 2) (v := .ref c3) (C := RX2) (T := TX2) (N := 6) hx hb hts in_X2_learn_X2 hown hK hP 0 rfl rfl 2 (by decide) (hts (.fieldLink RX2 23 "TypingCoach$Figures" "shares" "LTypingCoach$Cells;") (List.mem_of_getElem? (i := 3) rfl)) (fun _ h9 => h9) rfl dX2_learn_37 ?_
  refine lv_iload_n hx hb dX2_learn_40 rfl (lv_at hl 1 rfl) ?_
  refine rdV (As := [.int i]) (rest := [.int 7, .int i, .ref c3]) ⟨hx, hb, hml, hown, hts⟩ (c_X1_at l D z q c3 v3 26 sh i (Nat.le_of_ble_eq_true rfl)) (cwV 1 hts gX2_learn_X1_at rfl rfl rfl hd_X1_at ⟨Nat.le_of_ble_eq_true rfl, Nat.le_of_ble_eq_true rfl⟩) hE hS hA hP [5, 6] rfl rfl rfl rfl rfl hl.1 rfl (Nat.le_of_ble_eq_true rfl) dX2_learn_41 ⟨(Nat.le_of_ble_eq_true rfl), (Nat.le_of_ble_eq_true rfl)⟩ ?_
  refine lv_imul hx hb dX2_learn_44 ?_
  refine lv_iload_n hx hb dX2_learn_45 rfl (lv_at hl 3 rfl) ?_
  refine lv_if_eq (tgt := 55) hx hb dX2_learn_46 (by decide) (fun c_1 => ?_) (fun c_1 => ?_)
  · refine lv_iconst (v := 0) hx hb dX2_learn_55 (by decide) ?_
    refine lv_iadd hx hb dX2_learn_56 ?_
    refine lv_bipush (v := 8) hx hb dX2_learn_57 (by decide) ?_
    refine lv_idiv hx hb dX2_learn_59 (by decide) ?_
    refine wrVv (As := [.int i, .int (((7 * (cAt 26 sh i)) + 0) / 8)]) (rest := []) ⟨hx, hb, hml, hown, hts⟩ (c_X1_set l D z q c3 v3 26 sh i (((7 * (cAt 26 sh i)) + 0) / 8) H.size (Nat.le_of_ble_eq_true rfl)) (cwV 2 hts gX2_learn_X1_set rfl rfl rfl hd_X1_set ⟨Nat.le_of_ble_eq_true rfl, Nat.le_of_ble_eq_true rfl⟩) hE hS hA hP hD [5, 6] rfl rfl rfl rfl rfl rfl rfl hl.1 rfl (Nat.le_of_ble_eq_true rfl) dX2_learn_60 ⟨(Nat.le_of_ble_eq_true rfl), (Nat.le_of_ble_eq_true rfl)⟩ (fun H locs hP hD hS => ?_)
    have hP : va_P D vwCl [(h, .inr (2, [.ref c1, .ref c2, .ref c3, .ref c4, .int wt, .int wh])), (c1, .inr (1, [.ref v1])), (v1, .inl (z 0, 26, .inl (cSet 26 ct i (cAt 26 ct i + 1)))), (c2, .inr (1, [.ref v2])), (v2, .inl (z 0, 26, .inl (cSet 26 ti i (fAged (cAt 26 ti i) mo)))), (c3, .inr (1, [.ref v3])), (v3, .inl (z 0, 26, .inl (cSet 26 sh i (((7 * (cAt 26 sh i)) + 0) / 8)))), (c4, .inr (1, [.ref v4])), (v4, .inl (z 0, 676, .inl pr))] H := hP
    have hD : va_D A [(h, .inr (2, [.ref c1, .ref c2, .ref c3, .ref c4, .int wt, .int wh])), (c1, .inr (1, [.ref v1])), (v1, .inl (z 0, 26, .inl (cSet 26 ct i (cAt 26 ct i + 1)))), (c2, .inr (1, [.ref v2])), (v2, .inl (z 0, 26, .inl (cSet 26 ti i (fAged (cAt 26 ti i) mo)))), (c3, .inr (1, [.ref v3])), (v3, .inl (z 0, 26, .inl (cSet 26 sh i (((7 * (cAt 26 sh i)) + 0) / 8)))), (c4, .inr (1, [.ref v4])), (v4, .inl (z 0, 676, .inl pr))] := hD
    exact wr_v hx hb hr hlocks hP hD hS dX2_learn_63 (by simp only [fShr, if_pos c_1, ↓reduceIte]) (Nat.le_refl _) (Nat.le_refl _)
  · refine lv_sipush (v := 10000) hx hb dX2_learn_49 (by decide) ?_
    refine lv_goto (tgt := 56) hx hb dX2_learn_52 (by decide) ?_
    refine lv_iadd hx hb dX2_learn_56 ?_
    refine lv_bipush (v := 8) hx hb dX2_learn_57 (by decide) ?_
    refine lv_idiv hx hb dX2_learn_59 (by decide) ?_
    refine wrVv (As := [.int i, .int (((7 * (cAt 26 sh i)) + 10000) / 8)]) (rest := []) ⟨hx, hb, hml, hown, hts⟩ (c_X1_set l D z q c3 v3 26 sh i (((7 * (cAt 26 sh i)) + 10000) / 8) H.size (Nat.le_of_ble_eq_true rfl)) (cwV 2 hts gX2_learn_X1_set rfl rfl rfl hd_X1_set ⟨Nat.le_of_ble_eq_true rfl, Nat.le_of_ble_eq_true rfl⟩) hE hS hA hP hD [5, 6] rfl rfl rfl rfl rfl rfl rfl hl.1 rfl (Nat.le_of_ble_eq_true rfl) dX2_learn_60 ⟨(Nat.le_of_ble_eq_true rfl), (Nat.le_of_ble_eq_true rfl)⟩ (fun H locs hP hD hS => ?_)
    have hP : va_P D vwCl [(h, .inr (2, [.ref c1, .ref c2, .ref c3, .ref c4, .int wt, .int wh])), (c1, .inr (1, [.ref v1])), (v1, .inl (z 0, 26, .inl (cSet 26 ct i (cAt 26 ct i + 1)))), (c2, .inr (1, [.ref v2])), (v2, .inl (z 0, 26, .inl (cSet 26 ti i (fAged (cAt 26 ti i) mo)))), (c3, .inr (1, [.ref v3])), (v3, .inl (z 0, 26, .inl (cSet 26 sh i (((7 * (cAt 26 sh i)) + 10000) / 8)))), (c4, .inr (1, [.ref v4])), (v4, .inl (z 0, 676, .inl pr))] H := hP
    have hD : va_D A [(h, .inr (2, [.ref c1, .ref c2, .ref c3, .ref c4, .int wt, .int wh])), (c1, .inr (1, [.ref v1])), (v1, .inl (z 0, 26, .inl (cSet 26 ct i (cAt 26 ct i + 1)))), (c2, .inr (1, [.ref v2])), (v2, .inl (z 0, 26, .inl (cSet 26 ti i (fAged (cAt 26 ti i) mo)))), (c3, .inr (1, [.ref v3])), (v3, .inl (z 0, 26, .inl (cSet 26 sh i (((7 * (cAt 26 sh i)) + 10000) / 8)))), (c4, .inr (1, [.ref v4])), (v4, .inl (z 0, 676, .inl pr))] := hD
    exact wr_v hx hb hr hlocks hP hD hS dX2_learn_63 (by simp only [fShr, if_neg c_1, ↓reduceIte]) (Nat.le_refl _) (Nat.le_refl _)
set_option maxRecDepth 20000 in
theorem in_X2_learnPair_X2 : ∀ w ∈ wsX20, w ∈ wsX2_learnPair := mem_r _ [23, 24, 25, 26, 27, 28] (by decide +kernel)
theorem hd_X2_learnPair : yX2_learnPair.cls = RX2 ∧ yX2_learnPair.cls ≠ "java/lang/invoke/MethodHandle" ∧ yX2_learnPair.cls ≠ "java/lang/invoke/VarHandle" ∧ (parseMethodDescriptor yX2_learnPair.desc).map (fun d => d.parameters.length) = some 3 := by decide +kernel
set_option maxHeartbeats 4000000 in
set_option maxRecDepth 100000 in
theorem c_X2_learnPair (l : Launch) (D : va_G) (z : Nat → ClassId) (q : Nat → Nat) (h : Nat) (c1 : Nat) (v1 : Nat) (c2 : Nat) (v2 : Nat) (c3 : Nat) (v3 : Nat) (c4 : Nat) (v4 : Nat) (ct : Nat → Int32) (ti : Nat → Int32) (sh : Nat → Int32) (pr : Nat → Int32) (wt : Int32) (wh : Int32) (i : Int32) (j : Int32) (mo : Int32) (sz : Nat)  : WR l yX2_learnPair wsX2_learnPair ({ frames := 2, cells := 0, slots := 0, locals := 43 } : Room) D z q [.ref h, .int i, .int j, .int mo] [(h, .inr (2, [.ref c1, .ref c2, .ref c3, .ref c4, .int wt, .int wh])), (c1, .inr (1, [.ref v1])), (v1, .inl (z 0, 26, .inl ct)), (c2, .inr (1, [.ref v2])), (v2, .inl (z 0, 26, .inl ti)), (c3, .inr (1, [.ref v3])), (v3, .inl (z 0, 26, .inl sh)), (c4, .inr (1, [.ref v4])), (v4, .inl (z 0, 676, .inl pr))] sz [(h, .inr (2, [.ref c1, .ref c2, .ref c3, .ref c4, .int wt, .int wh])), (c1, .inr (1, [.ref v1])), (v1, .inl (z 0, 26, .inl ct)), (c2, .inr (1, [.ref v2])), (v2, .inl (z 0, 26, .inl ti)), (c3, .inr (1, [.ref v3])), (v3, .inl (z 0, 26, .inl sh)), (c4, .inr (1, [.ref v4])), (v4, .inl (z 0, 676, .inl (cSet 676 pr (fPair i j) (fAged (cAt 676 pr (fPair i j)) mo))))] none := by
  refine WR_mk (Qc := fun A => QW D [(h, .inr (2, [.ref c1, .ref c2, .ref c3, .ref c4, .int wt, .int wh])), (c1, .inr (1, [.ref v1])), (v1, .inl (z 0, 26, .inl ct)), (c2, .inr (1, [.ref v2])), (v2, .inl (z 0, 26, .inl ti)), (c3, .inr (1, [.ref v3])), (v3, .inl (z 0, 26, .inl sh)), (c4, .inr (1, [.ref v4])), (v4, .inl (z 0, 676, .inl (cSet 676 pr (fPair i j) (fAged (cAt 676 pr (fPair i j)) mo))))] A none) (cc := cX2_learnPair) (maxL := 4) (ret := none) (by decide) rfl (Nat.le_of_ble_eq_true rfl) ?_
  intro p e s m below meth c A hx hb hr hml hts hown hlocks hin0 H hP hD hE hS hA ls hl
  have hK := hE.1
  have hown : s.vm.findClass RX2 = some m.cls := hown
  have hl : lv_has ls 4 [(0, .ref h), (1, .int i), (2, .int j), (3, .int mo)] := hl
  refine lv_aload_n hx hb dX2_learnPair_0 rfl (lv_at hl 0 rfl) ?_
  refine va_get (D := D) (ci := 2) (v := .ref c4) (C := RX2) (T := TX2) (N := 6) hx hb hts in_X2_learnPair_X2 hown hK hP 0 rfl rfl 3 (by decide) (hts (.fieldLink RX2 26 "TypingCoach$Figures" "pairTimes" "LTypingCoach$Cells;") (List.mem_of_getElem? (i := 1) rfl)) (fun _ h9 => h9) rfl dX2_learnPair_1 ?_
  refine lv_iload_n hx hb dX2_learnPair_4 rfl (lv_at hl 1 rfl) ?_
  refine lv_iload_n hx hb dX2_learnPair_5 rfl (lv_at hl 2 rfl) ?_
  refine rdS (As := [.int i, .int j]) (rest := [.ref c4]) ⟨hx, hb, hml, hown, hts⟩ (c_X2_pairOf l D z q i j) (va_cwS 2 hts gX2_learnPair_X2_pairOf rfl rfl rfl hd_X2_pairOf ⟨Nat.le_of_ble_eq_true rfl, Nat.le_of_ble_eq_true rfl⟩) hE hS hA hP [] rfl rfl hl.1 rfl (Nat.le_of_ble_eq_true rfl) dX2_learnPair_6 ⟨(Nat.le_of_ble_eq_true rfl), (Nat.le_of_ble_eq_true rfl)⟩ ?_
  refine lv_aload_n hx hb dX2_learnPair_9 rfl (lv_at hl 0 rfl) ?_
  refine lv_iload_n hx hb dX2_learnPair_10 rfl (lv_at hl 1 rfl) ?_
  refine lv_iload_n hx hb dX2_learnPair_11 rfl (lv_at hl 2 rfl) ?_
  refine rdV (As := [.int i, .int j]) (rest := [.int (fPair i j), .ref c4]) ⟨hx, hb, hml, hown, hts⟩ (c_X2_timeOfPair l D z q h c1 v1 c2 v2 c3 v3 c4 v4 ct ti sh pr wt wh i j) (cwV 2 hts gX2_learnPair_X2_timeOfPair rfl rfl rfl hd_X2_timeOfPair ⟨Nat.le_of_ble_eq_true rfl, Nat.le_of_ble_eq_true rfl⟩) hE hS hA hP [0, 1, 2, 3, 4, 5, 6, 7, 8] rfl rfl rfl rfl rfl hl.1 rfl (Nat.le_of_ble_eq_true rfl) dX2_learnPair_12 ⟨(Nat.le_of_ble_eq_true rfl), (Nat.le_of_ble_eq_true rfl)⟩ ?_
  refine lv_iload_n hx hb dX2_learnPair_15 rfl (lv_at hl 3 rfl) ?_
  refine rdS (As := [.int (cAt 676 pr (fPair i j)), .int mo]) (rest := [.int (fPair i j), .ref c4]) ⟨hx, hb, hml, hown, hts⟩ (c_X2_aged l D z q (cAt 676 pr (fPair i j)) mo) (va_cwS 2 hts gX2_learnPair_X2_aged rfl rfl rfl hd_X2_aged ⟨Nat.le_of_ble_eq_true rfl, Nat.le_of_ble_eq_true rfl⟩) hE hS hA hP [] rfl rfl hl.1 rfl (Nat.le_of_ble_eq_true rfl) dX2_learnPair_16 ⟨(Nat.le_of_ble_eq_true rfl), (Nat.le_of_ble_eq_true rfl)⟩ ?_
  refine wrVv (As := [.int (fPair i j), .int (fAged (cAt 676 pr (fPair i j)) mo)]) (rest := []) ⟨hx, hb, hml, hown, hts⟩ (c_X1_set l D z q c4 v4 676 pr (fPair i j) (fAged (cAt 676 pr (fPair i j)) mo) H.size (Nat.le_of_ble_eq_true rfl)) (cwV 2 hts gX2_learnPair_X1_set rfl rfl rfl hd_X1_set ⟨Nat.le_of_ble_eq_true rfl, Nat.le_of_ble_eq_true rfl⟩) hE hS hA hP hD [7, 8] rfl rfl rfl rfl rfl rfl rfl hl.1 rfl (Nat.le_of_ble_eq_true rfl) dX2_learnPair_19 ⟨(Nat.le_of_ble_eq_true rfl), (Nat.le_of_ble_eq_true rfl)⟩ (fun H locs hP hD hS => ?_)
  have hP : va_P D vwCl [(h, .inr (2, [.ref c1, .ref c2, .ref c3, .ref c4, .int wt, .int wh])), (c1, .inr (1, [.ref v1])), (v1, .inl (z 0, 26, .inl ct)), (c2, .inr (1, [.ref v2])), (v2, .inl (z 0, 26, .inl ti)), (c3, .inr (1, [.ref v3])), (v3, .inl (z 0, 26, .inl sh)), (c4, .inr (1, [.ref v4])), (v4, .inl (z 0, 676, .inl (cSet 676 pr (fPair i j) (fAged (cAt 676 pr (fPair i j)) mo))))] H := hP
  have hD : va_D A [(h, .inr (2, [.ref c1, .ref c2, .ref c3, .ref c4, .int wt, .int wh])), (c1, .inr (1, [.ref v1])), (v1, .inl (z 0, 26, .inl ct)), (c2, .inr (1, [.ref v2])), (v2, .inl (z 0, 26, .inl ti)), (c3, .inr (1, [.ref v3])), (v3, .inl (z 0, 26, .inl sh)), (c4, .inr (1, [.ref v4])), (v4, .inl (z 0, 676, .inl (cSet 676 pr (fPair i j) (fAged (cAt 676 pr (fPair i j)) mo))))] := hD
  exact wr_v hx hb hr hlocks hP hD hS dX2_learnPair_22 (rfl) (Nat.le_refl _) (Nat.le_refl _)
set_option maxRecDepth 20000 in
theorem in_X2_forget_X2 : ∀ w ∈ wsX20, w ∈ wsX2_forget := mem_r _ [10, 11, 12, 13, 14, 15] (by decide +kernel)
theorem hd_X2_forget : yX2_forget.cls = RX2 ∧ yX2_forget.cls ≠ "java/lang/invoke/MethodHandle" ∧ yX2_forget.cls ≠ "java/lang/invoke/VarHandle" ∧ (parseMethodDescriptor yX2_forget.desc).map (fun d => d.parameters.length) = some 1 := by decide +kernel
set_option maxHeartbeats 4000000 in
set_option maxRecDepth 100000 in
theorem c_X2_forget (l : Launch) (D : va_G) (z : Nat → ClassId) (q : Nat → Nat) (h : Nat) (c1 : Nat) (v1 : Nat) (c2 : Nat) (v2 : Nat) (c3 : Nat) (v3 : Nat) (c4 : Nat) (v4 : Nat) (ct : Nat → Int32) (ti : Nat → Int32) (sh : Nat → Int32) (pr : Nat → Int32) (wt : Int32) (wh : Int32) (i : Int32) (sz : Nat)  : WR l yX2_forget wsX2_forget ({ frames := 1, cells := 0, slots := 0, locals := 22 } : Room) D z q [.ref h, .int i] [(h, .inr (2, [.ref c1, .ref c2, .ref c3, .ref c4, .int wt, .int wh])), (c1, .inr (1, [.ref v1])), (v1, .inl (z 0, 26, .inl ct)), (c2, .inr (1, [.ref v2])), (v2, .inl (z 0, 26, .inl ti)), (c3, .inr (1, [.ref v3])), (v3, .inl (z 0, 26, .inl sh)), (c4, .inr (1, [.ref v4])), (v4, .inl (z 0, 676, .inl pr))] sz [(h, .inr (2, [.ref c1, .ref c2, .ref c3, .ref c4, .int wt, .int wh])), (c1, .inr (1, [.ref v1])), (v1, .inl (z 0, 26, .inl (cSet 26 ct i 0))), (c2, .inr (1, [.ref v2])), (v2, .inl (z 0, 26, .inl (cSet 26 ti i 400))), (c3, .inr (1, [.ref v3])), (v3, .inl (z 0, 26, .inl (cSet 26 sh i 0))), (c4, .inr (1, [.ref v4])), (v4, .inl (z 0, 676, .inl pr))] none := by
  refine WR_mk (Qc := fun A => QW D [(h, .inr (2, [.ref c1, .ref c2, .ref c3, .ref c4, .int wt, .int wh])), (c1, .inr (1, [.ref v1])), (v1, .inl (z 0, 26, .inl (cSet 26 ct i 0))), (c2, .inr (1, [.ref v2])), (v2, .inl (z 0, 26, .inl (cSet 26 ti i 400))), (c3, .inr (1, [.ref v3])), (v3, .inl (z 0, 26, .inl (cSet 26 sh i 0))), (c4, .inr (1, [.ref v4])), (v4, .inl (z 0, 676, .inl pr))] A none) (cc := cX2_forget) (maxL := 2) (ret := none) (by decide) rfl (Nat.le_of_ble_eq_true rfl) ?_
  intro p e s m below meth c A hx hb hr hml hts hown hlocks hin0 H hP hD hE hS hA ls hl
  have hK := hE.1
  have hown : s.vm.findClass RX2 = some m.cls := hown
  have hl : lv_has ls 2 [(0, .ref h), (1, .int i)] := hl
  refine lv_aload_n hx hb dX2_forget_0 rfl (lv_at hl 0 rfl) ?_
  refine va_get (D := D) (ci := 2) (v := .ref c1) (C := RX2) (T := TX2) (N := 6) hx hb hts in_X2_forget_X2 hown hK hP 0 rfl rfl 0 (by decide) (hts (.fieldLink RX2 14 "TypingCoach$Figures" "counts" "LTypingCoach$Cells;") (List.mem_of_getElem? (i := 1) rfl)) (fun _ h9 => h9) rfl dX2_forget_1 ?_
  refine lv_iload_n hx hb dX2_forget_4 rfl (lv_at hl 1 rfl) ?_
  refine lv_iconst (v := 0) hx hb dX2_forget_5 (by decide) ?_
  refine wrVv (As := [.int i, .int 0]) (rest := []) ⟨hx, hb, hml, hown, hts⟩ (c_X1_set l D z q c1 v1 26 ct i 0 H.size (Nat.le_of_ble_eq_true rfl)) (cwV 2 hts gX2_forget_X1_set rfl rfl rfl hd_X1_set ⟨Nat.le_of_ble_eq_true rfl, Nat.le_of_ble_eq_true rfl⟩) hE hS hA hP hD [1, 2] rfl rfl rfl rfl rfl rfl rfl hl.1 rfl (Nat.le_of_ble_eq_true rfl) dX2_forget_6 ⟨(Nat.le_of_ble_eq_true rfl), (Nat.le_of_ble_eq_true rfl)⟩ (fun H locs hP hD hS => ?_)
  have hP : va_P D vwCl [(h, .inr (2, [.ref c1, .ref c2, .ref c3, .ref c4, .int wt, .int wh])), (c1, .inr (1, [.ref v1])), (v1, .inl (z 0, 26, .inl (cSet 26 ct i 0))), (c2, .inr (1, [.ref v2])), (v2, .inl (z 0, 26, .inl ti)), (c3, .inr (1, [.ref v3])), (v3, .inl (z 0, 26, .inl sh)), (c4, .inr (1, [.ref v4])), (v4, .inl (z 0, 676, .inl pr))] H := hP
  have hD : va_D A [(h, .inr (2, [.ref c1, .ref c2, .ref c3, .ref c4, .int wt, .int wh])), (c1, .inr (1, [.ref v1])), (v1, .inl (z 0, 26, .inl (cSet 26 ct i 0))), (c2, .inr (1, [.ref v2])), (v2, .inl (z 0, 26, .inl ti)), (c3, .inr (1, [.ref v3])), (v3, .inl (z 0, 26, .inl sh)), (c4, .inr (1, [.ref v4])), (v4, .inl (z 0, 676, .inl pr))] := hD
  refine lv_aload_n hx hb dX2_forget_9 rfl (lv_at hl 0 rfl) ?_
  refine va_get (D := D) (ci := 2) (v := .ref c2) (C := RX2) (T := TX2) (N := 6) hx hb hts in_X2_forget_X2 hown hK hP 0 rfl rfl 1 (by decide) (hts (.fieldLink RX2 20 "TypingCoach$Figures" "times" "LTypingCoach$Cells;") (List.mem_of_getElem? (i := 2) rfl)) (fun _ h9 => h9) rfl dX2_forget_10 ?_
  refine lv_iload_n hx hb dX2_forget_13 rfl (lv_at hl 1 rfl) ?_
  refine lv_sipush (v := 400) hx hb dX2_forget_14 (by decide) ?_
  refine wrVv (As := [.int i, .int 400]) (rest := []) ⟨hx, hb, hml, hown, hts⟩ (c_X1_set l D z q c2 v2 26 ti i 400 H.size (Nat.le_of_ble_eq_true rfl)) (cwV 2 hts gX2_forget_X1_set rfl rfl rfl hd_X1_set ⟨Nat.le_of_ble_eq_true rfl, Nat.le_of_ble_eq_true rfl⟩) hE hS hA hP hD [3, 4] rfl rfl rfl rfl rfl rfl rfl hl.1 rfl (Nat.le_of_ble_eq_true rfl) dX2_forget_17 ⟨(Nat.le_of_ble_eq_true rfl), (Nat.le_of_ble_eq_true rfl)⟩ (fun H locs hP hD hS => ?_)
  have hP : va_P D vwCl [(h, .inr (2, [.ref c1, .ref c2, .ref c3, .ref c4, .int wt, .int wh])), (c1, .inr (1, [.ref v1])), (v1, .inl (z 0, 26, .inl (cSet 26 ct i 0))), (c2, .inr (1, [.ref v2])), (v2, .inl (z 0, 26, .inl (cSet 26 ti i 400))), (c3, .inr (1, [.ref v3])), (v3, .inl (z 0, 26, .inl sh)), (c4, .inr (1, [.ref v4])), (v4, .inl (z 0, 676, .inl pr))] H := hP
  have hD : va_D A [(h, .inr (2, [.ref c1, .ref c2, .ref c3, .ref c4, .int wt, .int wh])), (c1, .inr (1, [.ref v1])), (v1, .inl (z 0, 26, .inl (cSet 26 ct i 0))), (c2, .inr (1, [.ref v2])), (v2, .inl (z 0, 26, .inl (cSet 26 ti i 400))), (c3, .inr (1, [.ref v3])), (v3, .inl (z 0, 26, .inl sh)), (c4, .inr (1, [.ref v4])), (v4, .inl (z 0, 676, .inl pr))] := hD
  refine lv_aload_n hx hb dX2_forget_20 rfl (lv_at hl 0 rfl) ?_
  refine va_get (D := D) (ci := 2) (v := .ref c3) (C := RX2) (T := TX2) (N := 6) hx hb hts in_X2_forget_X2 hown hK hP 0 rfl rfl 2 (by decide) (hts (.fieldLink RX2 23 "TypingCoach$Figures" "shares" "LTypingCoach$Cells;") (List.mem_of_getElem? (i := 3) rfl)) (fun _ h9 => h9) rfl dX2_forget_21 ?_
  refine lv_iload_n hx hb dX2_forget_24 rfl (lv_at hl 1 rfl) ?_
  refine lv_iconst (v := 0) hx hb dX2_forget_25 (by decide) ?_
  refine wrVv (As := [.int i, .int 0]) (rest := []) ⟨hx, hb, hml, hown, hts⟩ (c_X1_set l D z q c3 v3 26 sh i 0 H.size (Nat.le_of_ble_eq_true rfl)) (cwV 2 hts gX2_forget_X1_set rfl rfl rfl hd_X1_set ⟨Nat.le_of_ble_eq_true rfl, Nat.le_of_ble_eq_true rfl⟩) hE hS hA hP hD [5, 6] rfl rfl rfl rfl rfl rfl rfl hl.1 rfl (Nat.le_of_ble_eq_true rfl) dX2_forget_26 ⟨(Nat.le_of_ble_eq_true rfl), (Nat.le_of_ble_eq_true rfl)⟩ (fun H locs hP hD hS => ?_)
  have hP : va_P D vwCl [(h, .inr (2, [.ref c1, .ref c2, .ref c3, .ref c4, .int wt, .int wh])), (c1, .inr (1, [.ref v1])), (v1, .inl (z 0, 26, .inl (cSet 26 ct i 0))), (c2, .inr (1, [.ref v2])), (v2, .inl (z 0, 26, .inl (cSet 26 ti i 400))), (c3, .inr (1, [.ref v3])), (v3, .inl (z 0, 26, .inl (cSet 26 sh i 0))), (c4, .inr (1, [.ref v4])), (v4, .inl (z 0, 676, .inl pr))] H := hP
  have hD : va_D A [(h, .inr (2, [.ref c1, .ref c2, .ref c3, .ref c4, .int wt, .int wh])), (c1, .inr (1, [.ref v1])), (v1, .inl (z 0, 26, .inl (cSet 26 ct i 0))), (c2, .inr (1, [.ref v2])), (v2, .inl (z 0, 26, .inl (cSet 26 ti i 400))), (c3, .inr (1, [.ref v3])), (v3, .inl (z 0, 26, .inl (cSet 26 sh i 0))), (c4, .inr (1, [.ref v4])), (v4, .inl (z 0, 676, .inl pr))] := hD
  exact wr_v hx hb hr hlocks hP hD hS dX2_forget_29 (rfl) (Nat.le_refl _) (Nat.le_refl _)
set_option maxRecDepth 20000 in
theorem in_X2_halveCounts_X2 : ∀ w ∈ wsX20, w ∈ wsX2_halveCounts := mem_r _ [12, 13, 14, 15, 16, 17] (by decide +kernel)
theorem hd_X2_halveCounts : yX2_halveCounts.cls = RX2 ∧ yX2_halveCounts.cls ≠ "java/lang/invoke/MethodHandle" ∧ yX2_halveCounts.cls ≠ "java/lang/invoke/VarHandle" ∧ (parseMethodDescriptor yX2_halveCounts.desc).map (fun d => d.parameters.length) = some 0 := by decide +kernel
set_option maxHeartbeats 4000000 in
set_option maxRecDepth 100000 in
theorem c_X2_halveCounts (l : Launch) (D : va_G) (z : Nat → ClassId) (q : Nat → Nat) (h : Nat) (c1 : Nat) (v1 : Nat) (c2 : Nat) (v2 : Nat) (c3 : Nat) (v3 : Nat) (c4 : Nat) (v4 : Nat) (ct : Nat → Int32) (ti : Nat → Int32) (sh : Nat → Int32) (pr : Nat → Int32) (wt : Int32) (wh : Int32) (sz : Nat)  : WR l yX2_halveCounts wsX2_halveCounts ({ frames := 1, cells := 0, slots := 0, locals := 22 } : Room) D z q [.ref h] [(h, .inr (2, [.ref c1, .ref c2, .ref c3, .ref c4, .int wt, .int wh])), (c1, .inr (1, [.ref v1])), (v1, .inl (z 0, 26, .inl ct)), (c2, .inr (1, [.ref v2])), (v2, .inl (z 0, 26, .inl ti)), (c3, .inr (1, [.ref v3])), (v3, .inl (z 0, 26, .inl sh)), (c4, .inr (1, [.ref v4])), (v4, .inl (z 0, 676, .inl pr))] sz [(h, .inr (2, [.ref c1, .ref c2, .ref c3, .ref c4, .int wt, .int wh])), (c1, .inr (1, [.ref v1])), (v1, .inl (z 0, 26, .inl (fHalf ct 26))), (c2, .inr (1, [.ref v2])), (v2, .inl (z 0, 26, .inl ti)), (c3, .inr (1, [.ref v3])), (v3, .inl (z 0, 26, .inl sh)), (c4, .inr (1, [.ref v4])), (v4, .inl (z 0, 676, .inl pr))] none := by
  refine WR_mk (Qc := fun A => QW D [(h, .inr (2, [.ref c1, .ref c2, .ref c3, .ref c4, .int wt, .int wh])), (c1, .inr (1, [.ref v1])), (v1, .inl (z 0, 26, .inl (fHalf ct 26))), (c2, .inr (1, [.ref v2])), (v2, .inl (z 0, 26, .inl ti)), (c3, .inr (1, [.ref v3])), (v3, .inl (z 0, 26, .inl sh)), (c4, .inr (1, [.ref v4])), (v4, .inl (z 0, 676, .inl pr))] A none) (cc := cX2_halveCounts) (maxL := 2) (ret := none) (by decide) rfl (Nat.le_of_ble_eq_true rfl) ?_
  intro p e s m below meth c A hx hb hr hml hts hown hlocks hin0 H hP hD hE hS hA ls hl
  have hK := hE.1
  have hown : s.vm.findClass RX2 = some m.cls := hown
  have hl : lv_has ls 2 [(0, .ref h)] := hl
  refine lv_iconst (v := 0) hx hb dX2_halveCounts_0 (by decide) ?_
  refine lv_istore_n (lv' := [(1, .int 0), (0, .ref h)]) hx hb dX2_halveCounts_1 rfl hl (by decide) rfl (fun ls hl => ?_)
  have loop_1 : ∀ (n : Nat) (j : Nat), j ≤ 26 → 26 < j + n → ∀ (H : Heap) (locs : List Loc), va_P D vwCl [(h, .inr (2, [.ref c1, .ref c2, .ref c3, .ref c4, .int wt, .int wh])), (c1, .inr (1, [.ref v1])), (v1, .inl (z 0, 26, .inl (fHalf ct j))), (c2, .inr (1, [.ref v2])), (v2, .inl (z 0, 26, .inl ti)), (c3, .inr (1, [.ref v3])), (v3, .inl (z 0, 26, .inl sh)), (c4, .inr (1, [.ref v4])), (v4, .inl (z 0, 676, .inl pr))] H → va_D A [(h, .inr (2, [.ref c1, .ref c2, .ref c3, .ref c4, .int wt, .int wh])), (c1, .inr (1, [.ref v1])), (v1, .inl (z 0, 26, .inl (fHalf ct j))), (c2, .inr (1, [.ref v2])), (v2, .inl (z 0, 26, .inl ti)), (c3, .inr (1, [.ref v3])), (v3, .inl (z 0, 26, .inl sh)), (c4, .inr (1, [.ref v4])), (v4, .inl (z 0, 676, .inl pr))] → va_S A s.heap H locs → ∀ ls : Array Slot, lv_has ls 2 [(1, .int (nI j)), (0, .ref h)] → W p l e ({ frames := 1, cells := 0, slots := 0, locals := 22 } : Room) s m ([.ref h] : List Value).toArray below meth c H locs 0 0 (MQ below (QW D [(h, .inr (2, [.ref c1, .ref c2, .ref c3, .ref c4, .int wt, .int wh])), (c1, .inr (1, [.ref v1])), (v1, .inl (z 0, 26, .inl (fHalf ct 26))), (c2, .inr (1, [.ref v2])), (v2, .inl (z 0, 26, .inl ti)), (c3, .inr (1, [.ref v3])), (v3, .inl (z 0, 26, .inl sh)), (c4, .inr (1, [.ref v4])), (v4, .inl (z 0, 676, .inl pr))] A none) ([.ref h] : List Value).toArray s 0 0 A) (F0 m 2 ls []) := by
    intro n
    induction n with
    | zero => intro j hj hf; exact absurd hf (by omega)
    | succ n ih =>
      intro j hj hf H locs hP hD hS ls hl
      refine lv_iload_n hx hb dX2_halveCounts_2 rfl (lv_at hl 0 rfl) ?_
      refine lv_bipush (v := 26) hx hb dX2_halveCounts_3 (by decide) ?_
      refine lv_icmp_ge (tgt := 32) hx hb dX2_halveCounts_5 (by decide) (fun c_2 => ?_) (fun c_2 => ?_)
      · have hj2 : j = 26 := lpx c_2 hj (Nat.le_of_ble_eq_true rfl) rfl
        exact wr_v hx hb hr hlocks hP hD hS dX2_halveCounts_32 (by rw [hj2]) (Nat.le_refl _) (Nat.le_refl _)
      · have hjl : j < 26 := lpn c_2 hj (Nat.le_of_ble_eq_true rfl) rfl
        refine lv_aload_n hx hb dX2_halveCounts_8 rfl (lv_at hl 1 rfl) ?_
        refine va_get (D := D) (ci := 2) (v := .ref c1) (C := RX2) (T := TX2) (N := 6) hx hb hts in_X2_halveCounts_X2 hown hK hP 0 rfl rfl 0 (by decide) (hts (.fieldLink RX2 14 "TypingCoach$Figures" "counts" "LTypingCoach$Cells;") (List.mem_of_getElem? (i := 1) rfl)) (fun _ h9 => h9) rfl dX2_halveCounts_9 ?_
        refine lv_iload_n hx hb dX2_halveCounts_12 rfl (lv_at hl 0 rfl) ?_
        refine lv_aload_n hx hb dX2_halveCounts_13 rfl (lv_at hl 1 rfl) ?_
        refine va_get (D := D) (ci := 2) (v := .ref c1) (C := RX2) (T := TX2) (N := 6) hx hb hts in_X2_halveCounts_X2 hown hK hP 0 rfl rfl 0 (by decide) (hts (.fieldLink RX2 14 "TypingCoach$Figures" "counts" "LTypingCoach$Cells;") (List.mem_of_getElem? (i := 1) rfl)) (fun _ h9 => h9) rfl dX2_halveCounts_14 ?_
        refine lv_iload_n hx hb dX2_halveCounts_17 rfl (lv_at hl 0 rfl) ?_
        refine rdV (As := [.int (nI j)]) (rest := [.int (nI j), .ref c1]) ⟨hx, hb, hml, hown, hts⟩ (c_X1_at l D z q c1 v1 26 (fHalf ct j) (nI j) (Nat.le_of_ble_eq_true rfl)) (cwV 1 hts gX2_halveCounts_X1_at rfl rfl rfl hd_X1_at ⟨Nat.le_of_ble_eq_true rfl, Nat.le_of_ble_eq_true rfl⟩) hE hS hA hP [1, 2] rfl rfl rfl rfl rfl hl.1 rfl (Nat.le_of_ble_eq_true rfl) dX2_halveCounts_18 ⟨(Nat.le_of_ble_eq_true rfl), (Nat.le_of_ble_eq_true rfl)⟩ ?_
        refine lv_iconst (v := 2) hx hb dX2_halveCounts_21 (by decide) ?_
        refine lv_idiv hx hb dX2_halveCounts_22 (by decide) ?_
        refine wrVv (As := [.int (nI j), .int ((cAt 26 (fHalf ct j) (nI j)) / 2)]) (rest := []) ⟨hx, hb, hml, hown, hts⟩ (c_X1_set l D z q c1 v1 26 (fHalf ct j) (nI j) ((cAt 26 (fHalf ct j) (nI j)) / 2) H.size (Nat.le_of_ble_eq_true rfl)) (cwV 2 hts gX2_halveCounts_X1_set rfl rfl rfl hd_X1_set ⟨Nat.le_of_ble_eq_true rfl, Nat.le_of_ble_eq_true rfl⟩) hE hS hA hP hD [1, 2] rfl rfl rfl rfl rfl rfl rfl hl.1 rfl (Nat.le_of_ble_eq_true rfl) dX2_halveCounts_23 ⟨(Nat.le_of_ble_eq_true rfl), (Nat.le_of_ble_eq_true rfl)⟩ (fun H locs hP hD hS => ?_)
        have hP : va_P D vwCl [(h, .inr (2, [.ref c1, .ref c2, .ref c3, .ref c4, .int wt, .int wh])), (c1, .inr (1, [.ref v1])), (v1, .inl (z 0, 26, .inl (cSet 26 (fHalf ct j) (nI j) ((cAt 26 (fHalf ct j) (nI j)) / 2)))), (c2, .inr (1, [.ref v2])), (v2, .inl (z 0, 26, .inl ti)), (c3, .inr (1, [.ref v3])), (v3, .inl (z 0, 26, .inl sh)), (c4, .inr (1, [.ref v4])), (v4, .inl (z 0, 676, .inl pr))] H := hP
        have hD : va_D A [(h, .inr (2, [.ref c1, .ref c2, .ref c3, .ref c4, .int wt, .int wh])), (c1, .inr (1, [.ref v1])), (v1, .inl (z 0, 26, .inl (cSet 26 (fHalf ct j) (nI j) ((cAt 26 (fHalf ct j) (nI j)) / 2)))), (c2, .inr (1, [.ref v2])), (v2, .inl (z 0, 26, .inl ti)), (c3, .inr (1, [.ref v3])), (v3, .inl (z 0, 26, .inl sh)), (c4, .inr (1, [.ref v4])), (v4, .inl (z 0, 676, .inl pr))] := hD
        refine lv_iinc (v := nI (j + 1)) (lv' := [(1, .int (nI (j + 1))), (0, .ref h)]) hx hb dX2_halveCounts_26 hl (k := 0) rfl (nI_1 j) (by decide) rfl (fun ls hl => ?_)
        refine lv_goto (tgt := 2) hx hb dX2_halveCounts_29 (by decide) ?_
        rw [fHalf_s ct hjl] at hP hD
        exact ih (j + 1) (by omega) (by omega) _ _ hP hD hS ls (lv_sub hl [0, 1] rfl)
  exact loop_1 27 0 (by omega) (by omega) _ _ (by rw [fHalf_0]; exact hP) (by rw [fHalf_0]; exact hD) hS ls (lv_sub hl [0, 1] rfl)
set_option maxRecDepth 20000 in
theorem in_X3_isFull_X3 : ∀ w ∈ wsX30, w ∈ wsX3_isFull := mem_r _ [2, 3, 4, 5, 6, 7] (by decide +kernel)
theorem hd_X3_isFull : yX3_isFull.cls = RX3 ∧ yX3_isFull.cls ≠ "java/lang/invoke/MethodHandle" ∧ yX3_isFull.cls ≠ "java/lang/invoke/VarHandle" ∧ (parseMethodDescriptor yX3_isFull.desc).map (fun d => d.parameters.length) = some 0 := by decide +kernel
set_option maxHeartbeats 4000000 in
set_option maxRecDepth 100000 in
theorem c_X3_isFull (l : Launch) (D : va_G) (z : Nat → ClassId) (q : Nat → Nat) (h : Nat) (c1 : Nat) (v1 : Nat) (c2 : Nat) (v2 : Nat) (lt : Nat → Int32) (ty : Nat → Int32) (zz : Int32) (po : Int32) (me : Int32) (ml : Int32)  : RD l yX3_isFull wsX3_isFull ({ frames := 0, cells := 0, slots := 0, locals := 0 } : Room) D z q [.ref h] [(h, .inr (3, [.ref c1, .ref c2, .int zz, .int po, .int me, .int ml])), (c1, .inr (1, [.ref v1])), (v1, .inl (z 0, 40, .inl lt)), (c2, .inr (1, [.ref v2])), (v2, .inl (z 0, 40, .inl ty))] (some (.int (tFull zz))) := by
  refine RD_mk (cc := cX3_isFull) (maxL := 1) (ret := (some .boolean)) (by decide) rfl (Nat.le_of_ble_eq_true rfl) ?_
  intro p e s m below meth c hx hb hr hml hts hown hlocks hP hE hS hA ls hl
  have hK := hE.1
  have hown : s.vm.findClass RX3 = some m.cls := hown
  have hl : lv_has ls 1 [(0, .ref h)] := hl
  refine lv_aload_n hx hb dX3_isFull_0 rfl (lv_at hl 0 rfl) ?_
  refine va_get (D := D) (ci := 3) (v := .int zz) (C := RX3) (T := TX3) (N := 6) hx hb hts in_X3_isFull_X3 hown hK hP 0 rfl rfl 2 (by decide) (hts (.fieldLink RX3 23 "TypingCoach$Lesson" "size" "I") (List.mem_of_getElem? (i := 1) rfl)) (fun _ h9 => h9) rfl dX3_isFull_1 ?_
  refine lv_bipush (v := 40) hx hb dX3_isFull_4 (by decide) ?_
  refine lv_icmp_lt (tgt := 13) hx hb dX3_isFull_6 (by decide) (fun c_1 => ?_) (fun c_1 => ?_)
  · refine lv_iconst (v := 0) hx hb dX3_isFull_13 (by decide) ?_
    exact rd_z hx hb hr hlocks dX3_isFull_14 (by decide) (by simp only [tFull, if_pos c_1, ↓reduceIte])
  · refine lv_iconst (v := 1) hx hb dX3_isFull_9 (by decide) ?_
    refine lv_goto (tgt := 14) hx hb dX3_isFull_10 (by decide) ?_
    exact rd_z hx hb hr hlocks dX3_isFull_14 (by decide) (by simp only [tFull, if_neg c_1, ↓reduceIte])
set_option maxRecDepth 20000 in
theorem in_X3_append_X3 : ∀ w ∈ wsX30, w ∈ wsX3_append := mem_r _ [9, 10, 11, 12, 13, 14] (by decide +kernel)
theorem hd_X3_append : yX3_append.cls = RX3 ∧ yX3_append.cls ≠ "java/lang/invoke/MethodHandle" ∧ yX3_append.cls ≠ "java/lang/invoke/VarHandle" ∧ (parseMethodDescriptor yX3_append.desc).map (fun d => d.parameters.length) = some 1 := by decide +kernel
set_option maxHeartbeats 4000000 in
set_option maxRecDepth 100000 in
theorem c_X3_append (l : Launch) (D : va_G) (z : Nat → ClassId) (q : Nat → Nat) (h : Nat) (c1 : Nat) (v1 : Nat) (c2 : Nat) (v2 : Nat) (lt : Nat → Int32) (ty : Nat → Int32) (zz : Int32) (po : Int32) (me : Int32) (ml : Int32) (i : Int32) (sz : Nat)  : WR l yX3_append wsX3_append ({ frames := 1, cells := 0, slots := 0, locals := 22 } : Room) D z q [.ref h, .int i] [(h, .inr (3, [.ref c1, .ref c2, .int zz, .int po, .int me, .int ml])), (c1, .inr (1, [.ref v1])), (v1, .inl (z 0, 40, .inl lt)), (c2, .inr (1, [.ref v2])), (v2, .inl (z 0, 40, .inl ty))] sz [(h, .inr (3, [.ref c1, .ref c2, .int (zz + 1), .int po, .int me, .int ml])), (c1, .inr (1, [.ref v1])), (v1, .inl (z 0, 40, .inl (cSet 40 lt zz i))), (c2, .inr (1, [.ref v2])), (v2, .inl (z 0, 40, .inl ty))] none := by
  refine WR_mk (Qc := fun A => QW D [(h, .inr (3, [.ref c1, .ref c2, .int (zz + 1), .int po, .int me, .int ml])), (c1, .inr (1, [.ref v1])), (v1, .inl (z 0, 40, .inl (cSet 40 lt zz i))), (c2, .inr (1, [.ref v2])), (v2, .inl (z 0, 40, .inl ty))] A none) (cc := cX3_append) (maxL := 2) (ret := none) (by decide) rfl (Nat.le_of_ble_eq_true rfl) ?_
  intro p e s m below meth c A hx hb hr hml hts hown hlocks hin0 H hP hD hE hS hA ls hl
  have hK := hE.1
  have hown : s.vm.findClass RX3 = some m.cls := hown
  have hl : lv_has ls 2 [(0, .ref h), (1, .int i)] := hl
  refine lv_aload_n hx hb dX3_append_0 rfl (lv_at hl 0 rfl) ?_
  refine va_get (D := D) (ci := 3) (v := .ref c1) (C := RX3) (T := TX3) (N := 6) hx hb hts in_X3_append_X3 hown hK hP 0 rfl rfl 0 (by decide) (hts (.fieldLink RX3 14 "TypingCoach$Lesson" "letters" "LTypingCoach$Cells;") (List.mem_of_getElem? (i := 1) rfl)) (fun _ h9 => h9) rfl dX3_append_1 ?_
  refine lv_aload_n hx hb dX3_append_4 rfl (lv_at hl 0 rfl) ?_
  refine va_get (D := D) (ci := 3) (v := .int zz) (C := RX3) (T := TX3) (N := 6) hx hb hts in_X3_append_X3 hown hK hP 0 rfl rfl 2 (by decide) (hts (.fieldLink RX3 23 "TypingCoach$Lesson" "size" "I") (List.mem_of_getElem? (i := 2) rfl)) (fun _ h9 => h9) rfl dX3_append_5 ?_
  refine lv_iload_n hx hb dX3_append_8 rfl (lv_at hl 1 rfl) ?_
  refine wrVv (As := [.int zz, .int i]) (rest := []) ⟨hx, hb, hml, hown, hts⟩ (c_X1_set l D z q c1 v1 40 lt zz i H.size (Nat.le_of_ble_eq_true rfl)) (cwV 2 hts gX3_append_X1_set rfl rfl rfl hd_X1_set ⟨Nat.le_of_ble_eq_true rfl, Nat.le_of_ble_eq_true rfl⟩) hE hS hA hP hD [1, 2] rfl rfl rfl rfl rfl rfl rfl hl.1 rfl (Nat.le_of_ble_eq_true rfl) dX3_append_9 ⟨(Nat.le_of_ble_eq_true rfl), (Nat.le_of_ble_eq_true rfl)⟩ (fun H locs hP hD hS => ?_)
  have hP : va_P D vwCl [(h, .inr (3, [.ref c1, .ref c2, .int zz, .int po, .int me, .int ml])), (c1, .inr (1, [.ref v1])), (v1, .inl (z 0, 40, .inl (cSet 40 lt zz i))), (c2, .inr (1, [.ref v2])), (v2, .inl (z 0, 40, .inl ty))] H := hP
  have hD : va_D A [(h, .inr (3, [.ref c1, .ref c2, .int zz, .int po, .int me, .int ml])), (c1, .inr (1, [.ref v1])), (v1, .inl (z 0, 40, .inl (cSet 40 lt zz i))), (c2, .inr (1, [.ref v2])), (v2, .inl (z 0, 40, .inl ty))] := hD
  refine lv_aload_n hx hb dX3_append_12 rfl (lv_at hl 0 rfl) ?_
  refine lv_dup hx hb dX3_append_13 rfl ?_
  refine va_get (D := D) (ci := 3) (v := .int zz) (C := RX3) (T := TX3) (N := 6) hx hb hts in_X3_append_X3 hown hK hP 0 rfl rfl 2 (by decide) (hts (.fieldLink RX3 23 "TypingCoach$Lesson" "size" "I") (List.mem_of_getElem? (i := 2) rfl)) (fun _ h9 => h9) rfl dX3_append_14 ?_
  refine lv_iconst (v := 1) hx hb dX3_append_17 (by decide) ?_
  refine lv_iadd hx hb dX3_append_18 ?_
  refine va_put (D := D) (ci := 3) (v := .int (zz + 1)) (ty := .int) (C := RX3) (T := TX3) (N := 6) hx hb hts in_X3_append_X3 tyX3 tyX3_ok nmX3 hown hK hP hD hS 0 rfl rfl 2 (by decide) (hts (.fieldLink RX3 23 "TypingCoach$Lesson" "size" "I") (List.mem_of_getElem? (i := 2) rfl)) (fun _ h9 => h9) rfl (by decide +kernel) rfl rfl (Nat.le_of_ble_eq_true rfl) dX3_append_19 (fun H locs hP hD hS => ?_)
  have hP : va_P D vwCl [(h, .inr (3, [.ref c1, .ref c2, .int (zz + 1), .int po, .int me, .int ml])), (c1, .inr (1, [.ref v1])), (v1, .inl (z 0, 40, .inl (cSet 40 lt zz i))), (c2, .inr (1, [.ref v2])), (v2, .inl (z 0, 40, .inl ty))] H := hP
  have hD : va_D A [(h, .inr (3, [.ref c1, .ref c2, .int (zz + 1), .int po, .int me, .int ml])), (c1, .inr (1, [.ref v1])), (v1, .inl (z 0, 40, .inl (cSet 40 lt zz i))), (c2, .inr (1, [.ref v2])), (v2, .inl (z 0, 40, .inl ty))] := hD
  exact wr_v hx hb hr hlocks hP hD hS dX3_append_22 (rfl) (Nat.le_refl _) (Nat.le_refl _)
set_option maxRecDepth 20000 in
theorem in_X3_letterAt_X3 : ∀ w ∈ wsX30, w ∈ wsX3_letterAt := mem_r _ [9, 10, 11, 12, 13, 14] (by decide +kernel)
theorem hd_X3_letterAt : yX3_letterAt.cls = RX3 ∧ yX3_letterAt.cls ≠ "java/lang/invoke/MethodHandle" ∧ yX3_letterAt.cls ≠ "java/lang/invoke/VarHandle" ∧ (parseMethodDescriptor yX3_letterAt.desc).map (fun d => d.parameters.length) = some 1 := by decide +kernel
set_option maxHeartbeats 4000000 in
set_option maxRecDepth 100000 in
theorem c_X3_letterAt (l : Launch) (D : va_G) (z : Nat → ClassId) (q : Nat → Nat) (h : Nat) (c1 : Nat) (v1 : Nat) (c2 : Nat) (v2 : Nat) (lt : Nat → Int32) (ty : Nat → Int32) (zz : Int32) (po : Int32) (me : Int32) (ml : Int32) (i : Int32)  : RD l yX3_letterAt wsX3_letterAt ({ frames := 1, cells := 0, slots := 0, locals := 21 } : Room) D z q [.ref h, .int i] [(h, .inr (3, [.ref c1, .ref c2, .int zz, .int po, .int me, .int ml])), (c1, .inr (1, [.ref v1])), (v1, .inl (z 0, 40, .inl lt)), (c2, .inr (1, [.ref v2])), (v2, .inl (z 0, 40, .inl ty))] (some (.int (tAt lt zz i))) := by
  refine RD_mk (cc := cX3_letterAt) (maxL := 2) (ret := (some .int)) (by decide) rfl (Nat.le_of_ble_eq_true rfl) ?_
  intro p e s m below meth c hx hb hr hml hts hown hlocks hP hE hS hA ls hl
  have hK := hE.1
  have hown : s.vm.findClass RX3 = some m.cls := hown
  have hl : lv_has ls 2 [(0, .ref h), (1, .int i)] := hl
  refine lv_iload_n hx hb dX3_letterAt_0 rfl (lv_at hl 1 rfl) ?_
  refine lv_aload_n hx hb dX3_letterAt_1 rfl (lv_at hl 0 rfl) ?_
  refine va_get (D := D) (ci := 3) (v := .int zz) (C := RX3) (T := TX3) (N := 6) hx hb hts in_X3_letterAt_X3 hown hK hP 0 rfl rfl 2 (by decide) (hts (.fieldLink RX3 23 "TypingCoach$Lesson" "size" "I") (List.mem_of_getElem? (i := 1) rfl)) (fun _ h9 => h9) rfl dX3_letterAt_2 ?_
  refine lv_icmp_ge (tgt := 19) hx hb dX3_letterAt_5 (by decide) (fun c_1 => ?_) (fun c_1 => ?_)
  · refine lv_iconst (v := (-1)) hx hb dX3_letterAt_19 (by decide) ?_
    exact rd_i hx hb hr hlocks dX3_letterAt_20 (by simp only [tAt, if_pos c_1, ↓reduceIte])
  · refine lv_aload_n hx hb dX3_letterAt_8 rfl (lv_at hl 0 rfl) ?_
    refine va_get (D := D) (ci := 3) (v := .ref c1) (C := RX3) (T := TX3) (N := 6) hx hb hts in_X3_letterAt_X3 hown hK hP 0 rfl rfl 0 (by decide) (hts (.fieldLink RX3 14 "TypingCoach$Lesson" "letters" "LTypingCoach$Cells;") (List.mem_of_getElem? (i := 2) rfl)) (fun _ h9 => h9) rfl dX3_letterAt_9 ?_
    refine lv_iload_n hx hb dX3_letterAt_12 rfl (lv_at hl 1 rfl) ?_
    refine rdV (As := [.int i]) (rest := []) ⟨hx, hb, hml, hown, hts⟩ (c_X1_at l D z q c1 v1 40 lt i (Nat.le_of_ble_eq_true rfl)) (cwV 1 hts gX3_letterAt_X1_at rfl rfl rfl hd_X1_at ⟨Nat.le_of_ble_eq_true rfl, Nat.le_of_ble_eq_true rfl⟩) hE hS hA hP [1, 2] rfl rfl rfl rfl rfl hl.1 rfl (Nat.le_of_ble_eq_true rfl) dX3_letterAt_13 ⟨(Nat.le_of_ble_eq_true rfl), (Nat.le_of_ble_eq_true rfl)⟩ ?_
    refine lv_goto (tgt := 20) hx hb dX3_letterAt_16 (by decide) ?_
    exact rd_i hx hb hr hlocks dX3_letterAt_20 (by simp only [tAt, if_neg c_1, ↓reduceIte])
set_option maxRecDepth 20000 in
theorem in_X3_typedBefore_X3 : ∀ w ∈ wsX30, w ∈ wsX3_typedBefore := mem_r _ [9, 10, 11, 12, 13, 14] (by decide +kernel)
theorem hd_X3_typedBefore : yX3_typedBefore.cls = RX3 ∧ yX3_typedBefore.cls ≠ "java/lang/invoke/MethodHandle" ∧ yX3_typedBefore.cls ≠ "java/lang/invoke/VarHandle" ∧ (parseMethodDescriptor yX3_typedBefore.desc).map (fun d => d.parameters.length) = some 0 := by decide +kernel
set_option maxHeartbeats 4000000 in
set_option maxRecDepth 100000 in
theorem c_X3_typedBefore (l : Launch) (D : va_G) (z : Nat → ClassId) (q : Nat → Nat) (h : Nat) (c1 : Nat) (v1 : Nat) (c2 : Nat) (v2 : Nat) (lt : Nat → Int32) (ty : Nat → Int32) (zz : Int32) (po : Int32) (me : Int32) (ml : Int32)  : RD l yX3_typedBefore wsX3_typedBefore ({ frames := 1, cells := 0, slots := 0, locals := 21 } : Room) D z q [.ref h] [(h, .inr (3, [.ref c1, .ref c2, .int zz, .int po, .int me, .int ml])), (c1, .inr (1, [.ref v1])), (v1, .inl (z 0, 40, .inl lt)), (c2, .inr (1, [.ref v2])), (v2, .inl (z 0, 40, .inl ty))] (some (.int (cAt 40 ty (po - 1)))) := by
  refine RD_mk (cc := cX3_typedBefore) (maxL := 1) (ret := (some .int)) (by decide) rfl (Nat.le_of_ble_eq_true rfl) ?_
  intro p e s m below meth c hx hb hr hml hts hown hlocks hP hE hS hA ls hl
  have hK := hE.1
  have hown : s.vm.findClass RX3 = some m.cls := hown
  have hl : lv_has ls 1 [(0, .ref h)] := hl
  refine lv_aload_n hx hb dX3_typedBefore_0 rfl (lv_at hl 0 rfl) ?_
  refine va_get (D := D) (ci := 3) (v := .ref c2) (C := RX3) (T := TX3) (N := 6) hx hb hts in_X3_typedBefore_X3 hown hK hP 0 rfl rfl 1 (by decide) (hts (.fieldLink RX3 20 "TypingCoach$Lesson" "typed" "LTypingCoach$Cells;") (List.mem_of_getElem? (i := 1) rfl)) (fun _ h9 => h9) rfl dX3_typedBefore_1 ?_
  refine lv_aload_n hx hb dX3_typedBefore_4 rfl (lv_at hl 0 rfl) ?_
  refine va_get (D := D) (ci := 3) (v := .int po) (C := RX3) (T := TX3) (N := 6) hx hb hts in_X3_typedBefore_X3 hown hK hP 0 rfl rfl 3 (by decide) (hts (.fieldLink RX3 27 "TypingCoach$Lesson" "position" "I") (List.mem_of_getElem? (i := 2) rfl)) (fun _ h9 => h9) rfl dX3_typedBefore_5 ?_
  refine lv_iconst (v := 1) hx hb dX3_typedBefore_8 (by decide) ?_
  refine lv_isub hx hb dX3_typedBefore_9 ?_
  refine rdV (As := [.int (po - 1)]) (rest := []) ⟨hx, hb, hml, hown, hts⟩ (c_X1_at l D z q c2 v2 40 ty (po - 1) (Nat.le_of_ble_eq_true rfl)) (cwV 1 hts gX3_typedBefore_X1_at rfl rfl rfl hd_X1_at ⟨Nat.le_of_ble_eq_true rfl, Nat.le_of_ble_eq_true rfl⟩) hE hS hA hP [3, 4] rfl rfl rfl rfl rfl hl.1 rfl (Nat.le_of_ble_eq_true rfl) dX3_typedBefore_10 ⟨(Nat.le_of_ble_eq_true rfl), (Nat.le_of_ble_eq_true rfl)⟩ ?_
  exact rd_i hx hb hr hlocks dX3_typedBefore_13 (rfl)
set_option maxRecDepth 20000 in
theorem in_X3_type_X3 : ∀ w ∈ wsX30, w ∈ wsX3_type := mem_r _ [10, 11, 12, 13, 14, 15] (by decide +kernel)
theorem hd_X3_type : yX3_type.cls = RX3 ∧ yX3_type.cls ≠ "java/lang/invoke/MethodHandle" ∧ yX3_type.cls ≠ "java/lang/invoke/VarHandle" ∧ (parseMethodDescriptor yX3_type.desc).map (fun d => d.parameters.length) = some 2 := by decide +kernel
set_option maxHeartbeats 4000000 in
set_option maxRecDepth 100000 in
theorem c_X3_type (l : Launch) (D : va_G) (z : Nat → ClassId) (q : Nat → Nat) (h : Nat) (c1 : Nat) (v1 : Nat) (c2 : Nat) (v2 : Nat) (lt : Nat → Int32) (ty : Nat → Int32) (zz : Int32) (po : Int32) (me : Int32) (ml : Int32) (i : Int32) (mo : Int32) (sz : Nat)  : WR l yX3_type wsX3_type ({ frames := 1, cells := 0, slots := 0, locals := 22 } : Room) D z q [.ref h, .int i, .int mo] [(h, .inr (3, [.ref c1, .ref c2, .int zz, .int po, .int me, .int ml])), (c1, .inr (1, [.ref v1])), (v1, .inl (z 0, 40, .inl lt)), (c2, .inr (1, [.ref v2])), (v2, .inl (z 0, 40, .inl ty))] sz [(h, .inr (3, [.ref c1, .ref c2, .int zz, .int (po + 1), .int me, .int (ml + mo)])), (c1, .inr (1, [.ref v1])), (v1, .inl (z 0, 40, .inl lt)), (c2, .inr (1, [.ref v2])), (v2, .inl (z 0, 40, .inl (cSet 40 ty po i)))] none := by
  refine WR_mk (Qc := fun A => QW D [(h, .inr (3, [.ref c1, .ref c2, .int zz, .int (po + 1), .int me, .int (ml + mo)])), (c1, .inr (1, [.ref v1])), (v1, .inl (z 0, 40, .inl lt)), (c2, .inr (1, [.ref v2])), (v2, .inl (z 0, 40, .inl (cSet 40 ty po i)))] A none) (cc := cX3_type) (maxL := 3) (ret := none) (by decide) rfl (Nat.le_of_ble_eq_true rfl) ?_
  intro p e s m below meth c A hx hb hr hml hts hown hlocks hin0 H hP hD hE hS hA ls hl
  have hK := hE.1
  have hown : s.vm.findClass RX3 = some m.cls := hown
  have hl : lv_has ls 3 [(0, .ref h), (1, .int i), (2, .int mo)] := hl
  refine lv_aload_n hx hb dX3_type_0 rfl (lv_at hl 0 rfl) ?_
  refine va_get (D := D) (ci := 3) (v := .ref c2) (C := RX3) (T := TX3) (N := 6) hx hb hts in_X3_type_X3 hown hK hP 0 rfl rfl 1 (by decide) (hts (.fieldLink RX3 20 "TypingCoach$Lesson" "typed" "LTypingCoach$Cells;") (List.mem_of_getElem? (i := 1) rfl)) (fun _ h9 => h9) rfl dX3_type_1 ?_
  refine lv_aload_n hx hb dX3_type_4 rfl (lv_at hl 0 rfl) ?_
  refine va_get (D := D) (ci := 3) (v := .int po) (C := RX3) (T := TX3) (N := 6) hx hb hts in_X3_type_X3 hown hK hP 0 rfl rfl 3 (by decide) (hts (.fieldLink RX3 27 "TypingCoach$Lesson" "position" "I") (List.mem_of_getElem? (i := 2) rfl)) (fun _ h9 => h9) rfl dX3_type_5 ?_
  refine lv_iload_n hx hb dX3_type_8 rfl (lv_at hl 1 rfl) ?_
  refine wrVv (As := [.int po, .int i]) (rest := []) ⟨hx, hb, hml, hown, hts⟩ (c_X1_set l D z q c2 v2 40 ty po i H.size (Nat.le_of_ble_eq_true rfl)) (cwV 2 hts gX3_type_X1_set rfl rfl rfl hd_X1_set ⟨Nat.le_of_ble_eq_true rfl, Nat.le_of_ble_eq_true rfl⟩) hE hS hA hP hD [3, 4] rfl rfl rfl rfl rfl rfl rfl hl.1 rfl (Nat.le_of_ble_eq_true rfl) dX3_type_9 ⟨(Nat.le_of_ble_eq_true rfl), (Nat.le_of_ble_eq_true rfl)⟩ (fun H locs hP hD hS => ?_)
  have hP : va_P D vwCl [(h, .inr (3, [.ref c1, .ref c2, .int zz, .int po, .int me, .int ml])), (c1, .inr (1, [.ref v1])), (v1, .inl (z 0, 40, .inl lt)), (c2, .inr (1, [.ref v2])), (v2, .inl (z 0, 40, .inl (cSet 40 ty po i)))] H := hP
  have hD : va_D A [(h, .inr (3, [.ref c1, .ref c2, .int zz, .int po, .int me, .int ml])), (c1, .inr (1, [.ref v1])), (v1, .inl (z 0, 40, .inl lt)), (c2, .inr (1, [.ref v2])), (v2, .inl (z 0, 40, .inl (cSet 40 ty po i)))] := hD
  refine lv_aload_n hx hb dX3_type_12 rfl (lv_at hl 0 rfl) ?_
  refine lv_dup hx hb dX3_type_13 rfl ?_
  refine va_get (D := D) (ci := 3) (v := .int po) (C := RX3) (T := TX3) (N := 6) hx hb hts in_X3_type_X3 hown hK hP 0 rfl rfl 3 (by decide) (hts (.fieldLink RX3 27 "TypingCoach$Lesson" "position" "I") (List.mem_of_getElem? (i := 2) rfl)) (fun _ h9 => h9) rfl dX3_type_14 ?_
  refine lv_iconst (v := 1) hx hb dX3_type_17 (by decide) ?_
  refine lv_iadd hx hb dX3_type_18 ?_
  refine va_put (D := D) (ci := 3) (v := .int (po + 1)) (ty := .int) (C := RX3) (T := TX3) (N := 6) hx hb hts in_X3_type_X3 tyX3 tyX3_ok nmX3 hown hK hP hD hS 0 rfl rfl 3 (by decide) (hts (.fieldLink RX3 27 "TypingCoach$Lesson" "position" "I") (List.mem_of_getElem? (i := 2) rfl)) (fun _ h9 => h9) rfl (by decide +kernel) rfl rfl (Nat.le_of_ble_eq_true rfl) dX3_type_19 (fun H locs hP hD hS => ?_)
  have hP : va_P D vwCl [(h, .inr (3, [.ref c1, .ref c2, .int zz, .int (po + 1), .int me, .int ml])), (c1, .inr (1, [.ref v1])), (v1, .inl (z 0, 40, .inl lt)), (c2, .inr (1, [.ref v2])), (v2, .inl (z 0, 40, .inl (cSet 40 ty po i)))] H := hP
  have hD : va_D A [(h, .inr (3, [.ref c1, .ref c2, .int zz, .int (po + 1), .int me, .int ml])), (c1, .inr (1, [.ref v1])), (v1, .inl (z 0, 40, .inl lt)), (c2, .inr (1, [.ref v2])), (v2, .inl (z 0, 40, .inl (cSet 40 ty po i)))] := hD
  refine lv_aload_n hx hb dX3_type_22 rfl (lv_at hl 0 rfl) ?_
  refine lv_dup hx hb dX3_type_23 rfl ?_
  refine va_get (D := D) (ci := 3) (v := .int ml) (C := RX3) (T := TX3) (N := 6) hx hb hts in_X3_type_X3 hown hK hP 0 rfl rfl 5 (by decide) (hts (.fieldLink RX3 33 "TypingCoach$Lesson" "millisInAll" "I") (List.mem_of_getElem? (i := 3) rfl)) (fun _ h9 => h9) rfl dX3_type_24 ?_
  refine lv_iload_n hx hb dX3_type_27 rfl (lv_at hl 2 rfl) ?_
  refine lv_iadd hx hb dX3_type_28 ?_
  refine va_put (D := D) (ci := 3) (v := .int (ml + mo)) (ty := .int) (C := RX3) (T := TX3) (N := 6) hx hb hts in_X3_type_X3 tyX3 tyX3_ok nmX3 hown hK hP hD hS 0 rfl rfl 5 (by decide) (hts (.fieldLink RX3 33 "TypingCoach$Lesson" "millisInAll" "I") (List.mem_of_getElem? (i := 3) rfl)) (fun _ h9 => h9) rfl (by decide +kernel) rfl rfl (Nat.le_of_ble_eq_true rfl) dX3_type_29 (fun H locs hP hD hS => ?_)
  have hP : va_P D vwCl [(h, .inr (3, [.ref c1, .ref c2, .int zz, .int (po + 1), .int me, .int (ml + mo)])), (c1, .inr (1, [.ref v1])), (v1, .inl (z 0, 40, .inl lt)), (c2, .inr (1, [.ref v2])), (v2, .inl (z 0, 40, .inl (cSet 40 ty po i)))] H := hP
  have hD : va_D A [(h, .inr (3, [.ref c1, .ref c2, .int zz, .int (po + 1), .int me, .int (ml + mo)])), (c1, .inr (1, [.ref v1])), (v1, .inl (z 0, 40, .inl lt)), (c2, .inr (1, [.ref v2])), (v2, .inl (z 0, 40, .inl (cSet 40 ty po i)))] := hD
  exact wr_v hx hb hr hlocks hP hD hS dX3_type_32 (rfl) (Nat.le_refl _) (Nat.le_refl _)
set_option maxRecDepth 20000 in
theorem in_X3_goBack_X3 : ∀ w ∈ wsX30, w ∈ wsX3_goBack := mem_r _ [4, 5, 6, 7, 8, 9] (by decide +kernel)
theorem hd_X3_goBack : yX3_goBack.cls = RX3 ∧ yX3_goBack.cls ≠ "java/lang/invoke/MethodHandle" ∧ yX3_goBack.cls ≠ "java/lang/invoke/VarHandle" ∧ (parseMethodDescriptor yX3_goBack.desc).map (fun d => d.parameters.length) = some 1 := by decide +kernel
set_option maxHeartbeats 4000000 in
set_option maxRecDepth 100000 in
theorem c_X3_goBack (l : Launch) (D : va_G) (z : Nat → ClassId) (q : Nat → Nat) (h : Nat) (c1 : Nat) (v1 : Nat) (c2 : Nat) (v2 : Nat) (lt : Nat → Int32) (ty : Nat → Int32) (zz : Int32) (po : Int32) (me : Int32) (ml : Int32) (mo : Int32) (sz : Nat)  : WR l yX3_goBack wsX3_goBack ({ frames := 0, cells := 0, slots := 0, locals := 0 } : Room) D z q [.ref h, .int mo] [(h, .inr (3, [.ref c1, .ref c2, .int zz, .int po, .int me, .int ml])), (c1, .inr (1, [.ref v1])), (v1, .inl (z 0, 40, .inl lt)), (c2, .inr (1, [.ref v2])), (v2, .inl (z 0, 40, .inl ty))] sz [(h, .inr (3, [.ref c1, .ref c2, .int zz, .int (po - 1), .int (me + 1), .int (ml + mo)])), (c1, .inr (1, [.ref v1])), (v1, .inl (z 0, 40, .inl lt)), (c2, .inr (1, [.ref v2])), (v2, .inl (z 0, 40, .inl ty))] none := by
  refine WR_mk (Qc := fun A => QW D [(h, .inr (3, [.ref c1, .ref c2, .int zz, .int (po - 1), .int (me + 1), .int (ml + mo)])), (c1, .inr (1, [.ref v1])), (v1, .inl (z 0, 40, .inl lt)), (c2, .inr (1, [.ref v2])), (v2, .inl (z 0, 40, .inl ty))] A none) (cc := cX3_goBack) (maxL := 2) (ret := none) (by decide) rfl (Nat.le_of_ble_eq_true rfl) ?_
  intro p e s m below meth c A hx hb hr hml hts hown hlocks hin0 H hP hD hE hS hA ls hl
  have hK := hE.1
  have hown : s.vm.findClass RX3 = some m.cls := hown
  have hl : lv_has ls 2 [(0, .ref h), (1, .int mo)] := hl
  refine lv_aload_n hx hb dX3_goBack_0 rfl (lv_at hl 0 rfl) ?_
  refine lv_dup hx hb dX3_goBack_1 rfl ?_
  refine va_get (D := D) (ci := 3) (v := .int po) (C := RX3) (T := TX3) (N := 6) hx hb hts in_X3_goBack_X3 hown hK hP 0 rfl rfl 3 (by decide) (hts (.fieldLink RX3 27 "TypingCoach$Lesson" "position" "I") (List.mem_of_getElem? (i := 1) rfl)) (fun _ h9 => h9) rfl dX3_goBack_2 ?_
  refine lv_iconst (v := 1) hx hb dX3_goBack_5 (by decide) ?_
  refine lv_isub hx hb dX3_goBack_6 ?_
  refine va_put (D := D) (ci := 3) (v := .int (po - 1)) (ty := .int) (C := RX3) (T := TX3) (N := 6) hx hb hts in_X3_goBack_X3 tyX3 tyX3_ok nmX3 hown hK hP hD hS 0 rfl rfl 3 (by decide) (hts (.fieldLink RX3 27 "TypingCoach$Lesson" "position" "I") (List.mem_of_getElem? (i := 1) rfl)) (fun _ h9 => h9) rfl (by decide +kernel) rfl rfl (Nat.le_of_ble_eq_true rfl) dX3_goBack_7 (fun H locs hP hD hS => ?_)
  have hP : va_P D vwCl [(h, .inr (3, [.ref c1, .ref c2, .int zz, .int (po - 1), .int me, .int ml])), (c1, .inr (1, [.ref v1])), (v1, .inl (z 0, 40, .inl lt)), (c2, .inr (1, [.ref v2])), (v2, .inl (z 0, 40, .inl ty))] H := hP
  have hD : va_D A [(h, .inr (3, [.ref c1, .ref c2, .int zz, .int (po - 1), .int me, .int ml])), (c1, .inr (1, [.ref v1])), (v1, .inl (z 0, 40, .inl lt)), (c2, .inr (1, [.ref v2])), (v2, .inl (z 0, 40, .inl ty))] := hD
  refine lv_aload_n hx hb dX3_goBack_10 rfl (lv_at hl 0 rfl) ?_
  refine lv_dup hx hb dX3_goBack_11 rfl ?_
  refine va_get (D := D) (ci := 3) (v := .int me) (C := RX3) (T := TX3) (N := 6) hx hb hts in_X3_goBack_X3 hown hK hP 0 rfl rfl 4 (by decide) (hts (.fieldLink RX3 30 "TypingCoach$Lesson" "mendedStrokes" "I") (List.mem_of_getElem? (i := 2) rfl)) (fun _ h9 => h9) rfl dX3_goBack_12 ?_
  refine lv_iconst (v := 1) hx hb dX3_goBack_15 (by decide) ?_
  refine lv_iadd hx hb dX3_goBack_16 ?_
  refine va_put (D := D) (ci := 3) (v := .int (me + 1)) (ty := .int) (C := RX3) (T := TX3) (N := 6) hx hb hts in_X3_goBack_X3 tyX3 tyX3_ok nmX3 hown hK hP hD hS 0 rfl rfl 4 (by decide) (hts (.fieldLink RX3 30 "TypingCoach$Lesson" "mendedStrokes" "I") (List.mem_of_getElem? (i := 2) rfl)) (fun _ h9 => h9) rfl (by decide +kernel) rfl rfl (Nat.le_of_ble_eq_true rfl) dX3_goBack_17 (fun H locs hP hD hS => ?_)
  have hP : va_P D vwCl [(h, .inr (3, [.ref c1, .ref c2, .int zz, .int (po - 1), .int (me + 1), .int ml])), (c1, .inr (1, [.ref v1])), (v1, .inl (z 0, 40, .inl lt)), (c2, .inr (1, [.ref v2])), (v2, .inl (z 0, 40, .inl ty))] H := hP
  have hD : va_D A [(h, .inr (3, [.ref c1, .ref c2, .int zz, .int (po - 1), .int (me + 1), .int ml])), (c1, .inr (1, [.ref v1])), (v1, .inl (z 0, 40, .inl lt)), (c2, .inr (1, [.ref v2])), (v2, .inl (z 0, 40, .inl ty))] := hD
  refine lv_aload_n hx hb dX3_goBack_20 rfl (lv_at hl 0 rfl) ?_
  refine lv_dup hx hb dX3_goBack_21 rfl ?_
  refine va_get (D := D) (ci := 3) (v := .int ml) (C := RX3) (T := TX3) (N := 6) hx hb hts in_X3_goBack_X3 hown hK hP 0 rfl rfl 5 (by decide) (hts (.fieldLink RX3 33 "TypingCoach$Lesson" "millisInAll" "I") (List.mem_of_getElem? (i := 3) rfl)) (fun _ h9 => h9) rfl dX3_goBack_22 ?_
  refine lv_iload_n hx hb dX3_goBack_25 rfl (lv_at hl 1 rfl) ?_
  refine lv_iadd hx hb dX3_goBack_26 ?_
  refine va_put (D := D) (ci := 3) (v := .int (ml + mo)) (ty := .int) (C := RX3) (T := TX3) (N := 6) hx hb hts in_X3_goBack_X3 tyX3 tyX3_ok nmX3 hown hK hP hD hS 0 rfl rfl 5 (by decide) (hts (.fieldLink RX3 33 "TypingCoach$Lesson" "millisInAll" "I") (List.mem_of_getElem? (i := 3) rfl)) (fun _ h9 => h9) rfl (by decide +kernel) rfl rfl (Nat.le_of_ble_eq_true rfl) dX3_goBack_27 (fun H locs hP hD hS => ?_)
  have hP : va_P D vwCl [(h, .inr (3, [.ref c1, .ref c2, .int zz, .int (po - 1), .int (me + 1), .int (ml + mo)])), (c1, .inr (1, [.ref v1])), (v1, .inl (z 0, 40, .inl lt)), (c2, .inr (1, [.ref v2])), (v2, .inl (z 0, 40, .inl ty))] H := hP
  have hD : va_D A [(h, .inr (3, [.ref c1, .ref c2, .int zz, .int (po - 1), .int (me + 1), .int (ml + mo)])), (c1, .inr (1, [.ref v1])), (v1, .inl (z 0, 40, .inl lt)), (c2, .inr (1, [.ref v2])), (v2, .inl (z 0, 40, .inl ty))] := hD
  exact wr_v hx hb hr hlocks hP hD hS dX3_goBack_30 (rfl) (Nat.le_refl _) (Nat.le_refl _)
set_option maxRecDepth 20000 in
theorem in_X3_beginAnew_X3 : ∀ w ∈ wsX30, w ∈ wsX3_beginAnew := mem_r _ [5, 6, 7, 8, 9, 10] (by decide +kernel)
theorem hd_X3_beginAnew : yX3_beginAnew.cls = RX3 ∧ yX3_beginAnew.cls ≠ "java/lang/invoke/MethodHandle" ∧ yX3_beginAnew.cls ≠ "java/lang/invoke/VarHandle" ∧ (parseMethodDescriptor yX3_beginAnew.desc).map (fun d => d.parameters.length) = some 0 := by decide +kernel
set_option maxHeartbeats 4000000 in
set_option maxRecDepth 100000 in
theorem c_X3_beginAnew (l : Launch) (D : va_G) (z : Nat → ClassId) (q : Nat → Nat) (h : Nat) (c1 : Nat) (v1 : Nat) (c2 : Nat) (v2 : Nat) (lt : Nat → Int32) (ty : Nat → Int32) (zz : Int32) (po : Int32) (me : Int32) (ml : Int32) (sz : Nat)  : WR l yX3_beginAnew wsX3_beginAnew ({ frames := 0, cells := 0, slots := 0, locals := 0 } : Room) D z q [.ref h] [(h, .inr (3, [.ref c1, .ref c2, .int zz, .int po, .int me, .int ml])), (c1, .inr (1, [.ref v1])), (v1, .inl (z 0, 40, .inl lt)), (c2, .inr (1, [.ref v2])), (v2, .inl (z 0, 40, .inl ty))] sz [(h, .inr (3, [.ref c1, .ref c2, .int 0, .int 0, .int 0, .int 0])), (c1, .inr (1, [.ref v1])), (v1, .inl (z 0, 40, .inl lt)), (c2, .inr (1, [.ref v2])), (v2, .inl (z 0, 40, .inl ty))] none := by
  refine WR_mk (Qc := fun A => QW D [(h, .inr (3, [.ref c1, .ref c2, .int 0, .int 0, .int 0, .int 0])), (c1, .inr (1, [.ref v1])), (v1, .inl (z 0, 40, .inl lt)), (c2, .inr (1, [.ref v2])), (v2, .inl (z 0, 40, .inl ty))] A none) (cc := cX3_beginAnew) (maxL := 1) (ret := none) (by decide) rfl (Nat.le_of_ble_eq_true rfl) ?_
  intro p e s m below meth c A hx hb hr hml hts hown hlocks hin0 H hP hD hE hS hA ls hl
  have hK := hE.1
  have hown : s.vm.findClass RX3 = some m.cls := hown
  have hl : lv_has ls 1 [(0, .ref h)] := hl
  refine lv_aload_n hx hb dX3_beginAnew_0 rfl (lv_at hl 0 rfl) ?_
  refine lv_iconst (v := 0) hx hb dX3_beginAnew_1 (by decide) ?_
  refine va_put (D := D) (ci := 3) (v := .int 0) (ty := .int) (C := RX3) (T := TX3) (N := 6) hx hb hts in_X3_beginAnew_X3 tyX3 tyX3_ok nmX3 hown hK hP hD hS 0 rfl rfl 2 (by decide) (hts (.fieldLink RX3 23 "TypingCoach$Lesson" "size" "I") (List.mem_of_getElem? (i := 1) rfl)) (fun _ h9 => h9) rfl (by decide +kernel) rfl rfl (Nat.le_of_ble_eq_true rfl) dX3_beginAnew_2 (fun H locs hP hD hS => ?_)
  have hP : va_P D vwCl [(h, .inr (3, [.ref c1, .ref c2, .int 0, .int po, .int me, .int ml])), (c1, .inr (1, [.ref v1])), (v1, .inl (z 0, 40, .inl lt)), (c2, .inr (1, [.ref v2])), (v2, .inl (z 0, 40, .inl ty))] H := hP
  have hD : va_D A [(h, .inr (3, [.ref c1, .ref c2, .int 0, .int po, .int me, .int ml])), (c1, .inr (1, [.ref v1])), (v1, .inl (z 0, 40, .inl lt)), (c2, .inr (1, [.ref v2])), (v2, .inl (z 0, 40, .inl ty))] := hD
  refine lv_aload_n hx hb dX3_beginAnew_5 rfl (lv_at hl 0 rfl) ?_
  refine lv_iconst (v := 0) hx hb dX3_beginAnew_6 (by decide) ?_
  refine va_put (D := D) (ci := 3) (v := .int 0) (ty := .int) (C := RX3) (T := TX3) (N := 6) hx hb hts in_X3_beginAnew_X3 tyX3 tyX3_ok nmX3 hown hK hP hD hS 0 rfl rfl 3 (by decide) (hts (.fieldLink RX3 27 "TypingCoach$Lesson" "position" "I") (List.mem_of_getElem? (i := 2) rfl)) (fun _ h9 => h9) rfl (by decide +kernel) rfl rfl (Nat.le_of_ble_eq_true rfl) dX3_beginAnew_7 (fun H locs hP hD hS => ?_)
  have hP : va_P D vwCl [(h, .inr (3, [.ref c1, .ref c2, .int 0, .int 0, .int me, .int ml])), (c1, .inr (1, [.ref v1])), (v1, .inl (z 0, 40, .inl lt)), (c2, .inr (1, [.ref v2])), (v2, .inl (z 0, 40, .inl ty))] H := hP
  have hD : va_D A [(h, .inr (3, [.ref c1, .ref c2, .int 0, .int 0, .int me, .int ml])), (c1, .inr (1, [.ref v1])), (v1, .inl (z 0, 40, .inl lt)), (c2, .inr (1, [.ref v2])), (v2, .inl (z 0, 40, .inl ty))] := hD
  refine lv_aload_n hx hb dX3_beginAnew_10 rfl (lv_at hl 0 rfl) ?_
  refine lv_iconst (v := 0) hx hb dX3_beginAnew_11 (by decide) ?_
  refine va_put (D := D) (ci := 3) (v := .int 0) (ty := .int) (C := RX3) (T := TX3) (N := 6) hx hb hts in_X3_beginAnew_X3 tyX3 tyX3_ok nmX3 hown hK hP hD hS 0 rfl rfl 4 (by decide) (hts (.fieldLink RX3 30 "TypingCoach$Lesson" "mendedStrokes" "I") (List.mem_of_getElem? (i := 3) rfl)) (fun _ h9 => h9) rfl (by decide +kernel) rfl rfl (Nat.le_of_ble_eq_true rfl) dX3_beginAnew_12 (fun H locs hP hD hS => ?_)
  have hP : va_P D vwCl [(h, .inr (3, [.ref c1, .ref c2, .int 0, .int 0, .int 0, .int ml])), (c1, .inr (1, [.ref v1])), (v1, .inl (z 0, 40, .inl lt)), (c2, .inr (1, [.ref v2])), (v2, .inl (z 0, 40, .inl ty))] H := hP
  have hD : va_D A [(h, .inr (3, [.ref c1, .ref c2, .int 0, .int 0, .int 0, .int ml])), (c1, .inr (1, [.ref v1])), (v1, .inl (z 0, 40, .inl lt)), (c2, .inr (1, [.ref v2])), (v2, .inl (z 0, 40, .inl ty))] := hD
  refine lv_aload_n hx hb dX3_beginAnew_15 rfl (lv_at hl 0 rfl) ?_
  refine lv_iconst (v := 0) hx hb dX3_beginAnew_16 (by decide) ?_
  refine va_put (D := D) (ci := 3) (v := .int 0) (ty := .int) (C := RX3) (T := TX3) (N := 6) hx hb hts in_X3_beginAnew_X3 tyX3 tyX3_ok nmX3 hown hK hP hD hS 0 rfl rfl 5 (by decide) (hts (.fieldLink RX3 33 "TypingCoach$Lesson" "millisInAll" "I") (List.mem_of_getElem? (i := 4) rfl)) (fun _ h9 => h9) rfl (by decide +kernel) rfl rfl (Nat.le_of_ble_eq_true rfl) dX3_beginAnew_17 (fun H locs hP hD hS => ?_)
  have hP : va_P D vwCl [(h, .inr (3, [.ref c1, .ref c2, .int 0, .int 0, .int 0, .int 0])), (c1, .inr (1, [.ref v1])), (v1, .inl (z 0, 40, .inl lt)), (c2, .inr (1, [.ref v2])), (v2, .inl (z 0, 40, .inl ty))] H := hP
  have hD : va_D A [(h, .inr (3, [.ref c1, .ref c2, .int 0, .int 0, .int 0, .int 0])), (c1, .inr (1, [.ref v1])), (v1, .inl (z 0, 40, .inl lt)), (c2, .inr (1, [.ref v2])), (v2, .inl (z 0, 40, .inl ty))] := hD
  exact wr_v hx hb hr hlocks hP hD hS dX3_beginAnew_20 (rfl) (Nat.le_refl _) (Nat.le_refl _)
set_option maxRecDepth 20000 in
theorem in_X3_rightStrokes_X3 : ∀ w ∈ wsX30, w ∈ wsX3_rightStrokes := mem_r _ [10, 11, 12, 13, 14, 15] (by decide +kernel)
theorem hd_X3_rightStrokes : yX3_rightStrokes.cls = RX3 ∧ yX3_rightStrokes.cls ≠ "java/lang/invoke/MethodHandle" ∧ yX3_rightStrokes.cls ≠ "java/lang/invoke/VarHandle" ∧ (parseMethodDescriptor yX3_rightStrokes.desc).map (fun d => d.parameters.length) = some 0 := by decide +kernel
set_option maxHeartbeats 4000000 in
set_option maxRecDepth 100000 in
theorem c_X3_rightStrokes (l : Launch) (D : va_G) (z : Nat → ClassId) (q : Nat → Nat) (h : Nat) (c1 : Nat) (v1 : Nat) (c2 : Nat) (v2 : Nat) (lt : Nat → Int32) (ty : Nat → Int32) (zz : Int32) (po : Int32) (me : Int32) (ml : Int32) (ps : Nat) (hps : po = nI ps) (hp40 : ps ≤ 40) : RD l yX3_rightStrokes wsX3_rightStrokes ({ frames := 1, cells := 0, slots := 0, locals := 21 } : Room) D z q [.ref h] [(h, .inr (3, [.ref c1, .ref c2, .int zz, .int po, .int me, .int ml])), (c1, .inr (1, [.ref v1])), (v1, .inl (z 0, 40, .inl lt)), (c2, .inr (1, [.ref v2])), (v2, .inl (z 0, 40, .inl ty))] (some (.int (tRight lt ty ps))) := by
  refine RD_mk (cc := cX3_rightStrokes) (maxL := 3) (ret := (some .int)) (by decide) rfl (Nat.le_of_ble_eq_true rfl) ?_
  intro p e s m below meth c hx hb hr hml hts hown hlocks hP hE hS hA ls hl
  have hK := hE.1
  have hown : s.vm.findClass RX3 = some m.cls := hown
  have hl : lv_has ls 3 [(0, .ref h)] := hl
  refine lv_iconst (v := 0) hx hb dX3_rightStrokes_0 (by decide) ?_
  refine lv_istore_n (lv' := [(1, .int 0), (0, .ref h)]) hx hb dX3_rightStrokes_1 rfl hl (by decide) rfl (fun ls hl => ?_)
  refine lv_iconst (v := 0) hx hb dX3_rightStrokes_2 (by decide) ?_
  refine lv_istore_n (lv' := [(2, .int 0), (1, .int 0), (0, .ref h)]) hx hb dX3_rightStrokes_3 rfl hl (by decide) rfl (fun ls hl => ?_)
  have loop_1 : ∀ (n : Nat) (j : Nat) (x : Int32), j ≤ ps → ps < j + n → x = tRight lt ty j → ∀ ls : Array Slot, lv_has ls 3 [(2, .int (nI j)), (1, .int x), (0, .ref h)] → W p l e ({ frames := 1, cells := 0, slots := 0, locals := 21 } : Room) s m ([.ref h] : List Value).toArray below meth c s.heap [] 0 0 (MQ below (QR (some (.int (tRight lt ty ps)))) ([.ref h] : List Value).toArray s 0 0 (fun _ => False)) (F0 m 4 ls []) := by
    intro n
    induction n with
    | zero => intro j x hj hf hxj; exact absurd hf (by omega)
    | succ n ih =>
      intro j x hj hf hxj ls hl
      refine lv_iload_n hx hb dX3_rightStrokes_4 rfl (lv_at hl 0 rfl) ?_
      refine lv_aload_n hx hb dX3_rightStrokes_5 rfl (lv_at hl 2 rfl) ?_
      refine va_get (D := D) (ci := 3) (v := .int po) (C := RX3) (T := TX3) (N := 6) hx hb hts in_X3_rightStrokes_X3 hown hK hP 0 rfl rfl 3 (by decide) (hts (.fieldLink RX3 27 "TypingCoach$Lesson" "position" "I") (List.mem_of_getElem? (i := 1) rfl)) (fun _ h9 => h9) rfl dX3_rightStrokes_6 ?_
      refine lv_icmp_ge (tgt := 40) hx hb dX3_rightStrokes_9 (by decide) (fun c_2 => ?_) (fun c_2 => ?_)
      · have hj2 : j = ps := lpx c_2 hj (by omega) hps
        refine lv_iload_n hx hb dX3_rightStrokes_40 rfl (lv_at hl 1 rfl) ?_
        exact rd_i hx hb hr hlocks dX3_rightStrokes_41 (by rw [hxj, hj2])
      · have hjl : j < ps := lpn c_2 hj (by omega) hps
        refine lv_aload_n hx hb dX3_rightStrokes_12 rfl (lv_at hl 2 rfl) ?_
        refine va_get (D := D) (ci := 3) (v := .ref c2) (C := RX3) (T := TX3) (N := 6) hx hb hts in_X3_rightStrokes_X3 hown hK hP 0 rfl rfl 1 (by decide) (hts (.fieldLink RX3 20 "TypingCoach$Lesson" "typed" "LTypingCoach$Cells;") (List.mem_of_getElem? (i := 2) rfl)) (fun _ h9 => h9) rfl dX3_rightStrokes_13 ?_
        refine lv_iload_n hx hb dX3_rightStrokes_16 rfl (lv_at hl 0 rfl) ?_
        refine rdV (As := [.int (nI j)]) (rest := []) ⟨hx, hb, hml, hown, hts⟩ (c_X1_at l D z q c2 v2 40 ty (nI j) (Nat.le_of_ble_eq_true rfl)) (cwV 1 hts gX3_rightStrokes_X1_at rfl rfl rfl hd_X1_at ⟨Nat.le_of_ble_eq_true rfl, Nat.le_of_ble_eq_true rfl⟩) hE hS hA hP [3, 4] rfl rfl rfl rfl rfl hl.1 rfl (Nat.le_of_ble_eq_true rfl) dX3_rightStrokes_17 ⟨(Nat.le_of_ble_eq_true rfl), (Nat.le_of_ble_eq_true rfl)⟩ ?_
        refine lv_aload_n hx hb dX3_rightStrokes_20 rfl (lv_at hl 2 rfl) ?_
        refine va_get (D := D) (ci := 3) (v := .ref c1) (C := RX3) (T := TX3) (N := 6) hx hb hts in_X3_rightStrokes_X3 hown hK hP 0 rfl rfl 0 (by decide) (hts (.fieldLink RX3 14 "TypingCoach$Lesson" "letters" "LTypingCoach$Cells;") (List.mem_of_getElem? (i := 3) rfl)) (fun _ h9 => h9) rfl dX3_rightStrokes_21 ?_
        refine lv_iload_n hx hb dX3_rightStrokes_24 rfl (lv_at hl 0 rfl) ?_
        refine rdV (As := [.int (nI j)]) (rest := [.int (cAt 40 ty (nI j))]) ⟨hx, hb, hml, hown, hts⟩ (c_X1_at l D z q c1 v1 40 lt (nI j) (Nat.le_of_ble_eq_true rfl)) (cwV 1 hts gX3_rightStrokes_X1_at rfl rfl rfl hd_X1_at ⟨Nat.le_of_ble_eq_true rfl, Nat.le_of_ble_eq_true rfl⟩) hE hS hA hP [1, 2] rfl rfl rfl rfl rfl hl.1 rfl (Nat.le_of_ble_eq_true rfl) dX3_rightStrokes_25 ⟨(Nat.le_of_ble_eq_true rfl), (Nat.le_of_ble_eq_true rfl)⟩ ?_
        refine lv_icmp_ne (tgt := 34) hx hb dX3_rightStrokes_28 (by decide) (fun c_3 => ?_) (fun c_3 => ?_)
        · refine lv_iinc (v := nI (j + 1)) (lv' := [(2, .int (nI (j + 1))), (1, .int x), (0, .ref h)]) hx hb dX3_rightStrokes_34 hl (k := 0) rfl (nI_1 j) (by decide) rfl (fun ls hl => ?_)
          refine lv_goto (tgt := 4) hx hb dX3_rightStrokes_37 (by decide) ?_
          exact ih (j + 1) x (by omega) (by omega) (by rw [tRight, ← hxj]; simp only [if_neg c_2, if_neg c_3, ↓reduceIte]) ls (lv_sub hl [0, 1, 2] rfl)
        · refine lv_iinc (v := x + 1) (lv' := [(1, .int (x + 1)), (2, .int (nI j)), (0, .ref h)]) hx hb dX3_rightStrokes_31 hl (k := 1) rfl (rfl) (by decide) rfl (fun ls hl => ?_)
          refine lv_iinc (v := nI (j + 1)) (lv' := [(2, .int (nI (j + 1))), (1, .int (x + 1)), (0, .ref h)]) hx hb dX3_rightStrokes_34 hl (k := 1) rfl (nI_1 j) (by decide) rfl (fun ls hl => ?_)
          refine lv_goto (tgt := 4) hx hb dX3_rightStrokes_37 (by decide) ?_
          exact ih (j + 1) (x + 1) (by omega) (by omega) (by rw [tRight, ← hxj]; simp only [if_neg c_2, if_pos c_3, ↓reduceIte]) ls (lv_sub hl [0, 1, 2] rfl)
  exact loop_1 (ps + 1) 0 0 (by omega) (by omega) rfl ls (lv_sub hl [0, 1, 2] rfl)
set_option maxRecDepth 20000 in
theorem in_X3_speedSoFar_X3 : ∀ w ∈ wsX30, w ∈ wsX3_speedSoFar := mem_r _ [17, 18, 19, 20, 21, 22] (by decide +kernel)
theorem hd_X3_speedSoFar : yX3_speedSoFar.cls = RX3 ∧ yX3_speedSoFar.cls ≠ "java/lang/invoke/MethodHandle" ∧ yX3_speedSoFar.cls ≠ "java/lang/invoke/VarHandle" ∧ (parseMethodDescriptor yX3_speedSoFar.desc).map (fun d => d.parameters.length) = some 0 := by decide +kernel
set_option maxHeartbeats 4000000 in
set_option maxRecDepth 100000 in
theorem c_X3_speedSoFar (l : Launch) (D : va_G) (z : Nat → ClassId) (q : Nat → Nat) (h : Nat) (c1 : Nat) (v1 : Nat) (c2 : Nat) (v2 : Nat) (lt : Nat → Int32) (ty : Nat → Int32) (zz : Int32) (po : Int32) (me : Int32) (ml : Int32) (ps : Nat) (hps : po = nI ps) (hp40 : ps ≤ 40) : RD l yX3_speedSoFar wsX3_speedSoFar ({ frames := 2, cells := 0, slots := 0, locals := 43 } : Room) D z q [.ref h] [(h, .inr (3, [.ref c1, .ref c2, .int zz, .int po, .int me, .int ml])), (c1, .inr (1, [.ref v1])), (v1, .inl (z 0, 40, .inl lt)), (c2, .inr (1, [.ref v2])), (v2, .inl (z 0, 40, .inl ty))] (some (.int (tSpeed lt ty ps ml))) := by
  refine RD_mk (cc := cX3_speedSoFar) (maxL := 1) (ret := (some .int)) (by decide) rfl (Nat.le_of_ble_eq_true rfl) ?_
  intro p e s m below meth c hx hb hr hml hts hown hlocks hP hE hS hA ls hl
  have hK := hE.1
  have hown : s.vm.findClass RX3 = some m.cls := hown
  have hl : lv_has ls 1 [(0, .ref h)] := hl
  refine lv_aload_n hx hb dX3_speedSoFar_0 rfl (lv_at hl 0 rfl) ?_
  refine va_get (D := D) (ci := 3) (v := .int ml) (C := RX3) (T := TX3) (N := 6) hx hb hts in_X3_speedSoFar_X3 hown hK hP 0 rfl rfl 5 (by decide) (hts (.fieldLink RX3 33 "TypingCoach$Lesson" "millisInAll" "I") (List.mem_of_getElem? (i := 1) rfl)) (fun _ h9 => h9) rfl dX3_speedSoFar_1 ?_
  refine lv_if_gt (tgt := 11) hx hb dX3_speedSoFar_4 (by decide) (fun c_1 => ?_) (fun c_1 => ?_)
  · refine lv_aload_n hx hb dX3_speedSoFar_11 rfl (lv_at hl 0 rfl) ?_
    refine rdV (As := []) (rest := []) ⟨hx, hb, hml, hown, hts⟩ (c_X3_rightStrokes l D z q h c1 v1 c2 v2 lt ty zz po me ml ps hps hp40) (cwV 0 hts gX3_speedSoFar_X3_rightStrokes rfl rfl rfl hd_X3_rightStrokes ⟨Nat.le_of_ble_eq_true rfl, Nat.le_of_ble_eq_true rfl⟩) hE hS hA hP [0, 1, 2, 3, 4] rfl rfl rfl rfl rfl hl.1 rfl (Nat.le_of_ble_eq_true rfl) dX3_speedSoFar_12 ⟨(Nat.le_of_ble_eq_true rfl), (Nat.le_of_ble_eq_true rfl)⟩ ?_
    refine lv_ldc (v := 60000) hx hb hown (hts (.constant RX3 47 60000) (List.mem_of_getElem? (i := 2) rfl)) dX3_speedSoFar_15 ?_
    refine lv_imul hx hb dX3_speedSoFar_17 ?_
    refine lv_aload_n hx hb dX3_speedSoFar_18 rfl (lv_at hl 0 rfl) ?_
    refine va_get (D := D) (ci := 3) (v := .int ml) (C := RX3) (T := TX3) (N := 6) hx hb hts in_X3_speedSoFar_X3 hown hK hP 0 rfl rfl 5 (by decide) (hts (.fieldLink RX3 33 "TypingCoach$Lesson" "millisInAll" "I") (List.mem_of_getElem? (i := 1) rfl)) (fun _ h9 => h9) rfl dX3_speedSoFar_19 ?_
    refine lv_idiv hx hb dX3_speedSoFar_22 (fun h9 => absurd c_1 (by rw [h9]; decide)) ?_
    exact rd_i hx hb hr hlocks dX3_speedSoFar_23 (by simp only [tSpeed, if_pos c_1, ↓reduceIte])
  · refine lv_iconst (v := 0) hx hb dX3_speedSoFar_7 (by decide) ?_
    refine lv_goto (tgt := 23) hx hb dX3_speedSoFar_8 (by decide) ?_
    exact rd_i hx hb hr hlocks dX3_speedSoFar_23 (by simp only [tSpeed, if_neg c_1, ↓reduceIte])
set_option maxRecDepth 20000 in
theorem in_X5_isFull_X5 : ∀ w ∈ wsX50, w ∈ wsX5_isFull := mem_r _ [2, 3] (by decide +kernel)
theorem hd_X5_isFull : yX5_isFull.cls = RX5 ∧ yX5_isFull.cls ≠ "java/lang/invoke/MethodHandle" ∧ yX5_isFull.cls ≠ "java/lang/invoke/VarHandle" ∧ (parseMethodDescriptor yX5_isFull.desc).map (fun d => d.parameters.length) = some 0 := by decide +kernel
set_option maxHeartbeats 4000000 in
set_option maxRecDepth 100000 in
theorem c_X5_isFull (l : Launch) (D : va_G) (z : Nat → ClassId) (q : Nat → Nat) (h : Nat) (c1 : Nat) (v1 : Nat) (kp : Nat → Int32) (zz : Int32)  : RD l yX5_isFull wsX5_isFull ({ frames := 0, cells := 0, slots := 0, locals := 0 } : Room) D z q [.ref h] [(h, .inr (5, [.ref c1, .int zz])), (c1, .inr (1, [.ref v1])), (v1, .inl (z 0, 100, .inl kp))] (some (.int (pFull zz))) := by
  refine RD_mk (cc := cX5_isFull) (maxL := 1) (ret := (some .boolean)) (by decide) rfl (Nat.le_of_ble_eq_true rfl) ?_
  intro p e s m below meth c hx hb hr hml hts hown hlocks hP hE hS hA ls hl
  have hK := hE.1
  have hown : s.vm.findClass RX5 = some m.cls := hown
  have hl : lv_has ls 1 [(0, .ref h)] := hl
  refine lv_aload_n hx hb dX5_isFull_0 rfl (lv_at hl 0 rfl) ?_
  refine va_get (D := D) (ci := 5) (v := .int zz) (C := RX5) (T := TX5) (N := 2) hx hb hts in_X5_isFull_X5 hown hK hP 0 rfl rfl 1 (by decide) (hts (.fieldLink RX5 20 "TypingCoach$Speeds" "size" "I") (List.mem_of_getElem? (i := 1) rfl)) (fun _ h9 => h9) rfl dX5_isFull_1 ?_
  refine lv_bipush (v := 100) hx hb dX5_isFull_4 (by decide) ?_
  refine lv_icmp_lt (tgt := 13) hx hb dX5_isFull_6 (by decide) (fun c_1 => ?_) (fun c_1 => ?_)
  · refine lv_iconst (v := 0) hx hb dX5_isFull_13 (by decide) ?_
    exact rd_z hx hb hr hlocks dX5_isFull_14 (by decide) (by simp only [pFull, if_pos c_1, ↓reduceIte])
  · refine lv_iconst (v := 1) hx hb dX5_isFull_9 (by decide) ?_
    refine lv_goto (tgt := 14) hx hb dX5_isFull_10 (by decide) ?_
    exact rd_z hx hb hr hlocks dX5_isFull_14 (by decide) (by simp only [pFull, if_neg c_1, ↓reduceIte])
set_option maxRecDepth 20000 in
theorem in_X5_keep_X5 : ∀ w ∈ wsX50, w ∈ wsX5_keep := mem_r _ [9, 10] (by decide +kernel)
theorem hd_X5_keep : yX5_keep.cls = RX5 ∧ yX5_keep.cls ≠ "java/lang/invoke/MethodHandle" ∧ yX5_keep.cls ≠ "java/lang/invoke/VarHandle" ∧ (parseMethodDescriptor yX5_keep.desc).map (fun d => d.parameters.length) = some 1 := by decide +kernel
set_option maxHeartbeats 4000000 in
set_option maxRecDepth 100000 in
theorem c_X5_keep (l : Launch) (D : va_G) (z : Nat → ClassId) (q : Nat → Nat) (h : Nat) (c1 : Nat) (v1 : Nat) (kp : Nat → Int32) (zz : Int32) (x : Int32) (sz : Nat)  : WR l yX5_keep wsX5_keep ({ frames := 1, cells := 0, slots := 0, locals := 22 } : Room) D z q [.ref h, .int x] [(h, .inr (5, [.ref c1, .int zz])), (c1, .inr (1, [.ref v1])), (v1, .inl (z 0, 100, .inl kp))] sz [(h, .inr (5, [.ref c1, .int (zz + 1)])), (c1, .inr (1, [.ref v1])), (v1, .inl (z 0, 100, .inl (cSet 100 kp zz x)))] none := by
  refine WR_mk (Qc := fun A => QW D [(h, .inr (5, [.ref c1, .int (zz + 1)])), (c1, .inr (1, [.ref v1])), (v1, .inl (z 0, 100, .inl (cSet 100 kp zz x)))] A none) (cc := cX5_keep) (maxL := 2) (ret := none) (by decide) rfl (Nat.le_of_ble_eq_true rfl) ?_
  intro p e s m below meth c A hx hb hr hml hts hown hlocks hin0 H hP hD hE hS hA ls hl
  have hK := hE.1
  have hown : s.vm.findClass RX5 = some m.cls := hown
  have hl : lv_has ls 2 [(0, .ref h), (1, .int x)] := hl
  refine lv_aload_n hx hb dX5_keep_0 rfl (lv_at hl 0 rfl) ?_
  refine va_get (D := D) (ci := 5) (v := .ref c1) (C := RX5) (T := TX5) (N := 2) hx hb hts in_X5_keep_X5 hown hK hP 0 rfl rfl 0 (by decide) (hts (.fieldLink RX5 14 "TypingCoach$Speeds" "kept" "LTypingCoach$Cells;") (List.mem_of_getElem? (i := 1) rfl)) (fun _ h9 => h9) rfl dX5_keep_1 ?_
  refine lv_aload_n hx hb dX5_keep_4 rfl (lv_at hl 0 rfl) ?_
  refine va_get (D := D) (ci := 5) (v := .int zz) (C := RX5) (T := TX5) (N := 2) hx hb hts in_X5_keep_X5 hown hK hP 0 rfl rfl 1 (by decide) (hts (.fieldLink RX5 20 "TypingCoach$Speeds" "size" "I") (List.mem_of_getElem? (i := 2) rfl)) (fun _ h9 => h9) rfl dX5_keep_5 ?_
  refine lv_iload_n hx hb dX5_keep_8 rfl (lv_at hl 1 rfl) ?_
  refine wrVv (As := [.int zz, .int x]) (rest := []) ⟨hx, hb, hml, hown, hts⟩ (c_X1_set l D z q c1 v1 100 kp zz x H.size (Nat.le_of_ble_eq_true rfl)) (cwV 2 hts gX5_keep_X1_set rfl rfl rfl hd_X1_set ⟨Nat.le_of_ble_eq_true rfl, Nat.le_of_ble_eq_true rfl⟩) hE hS hA hP hD [1, 2] rfl rfl rfl rfl rfl rfl rfl hl.1 rfl (Nat.le_of_ble_eq_true rfl) dX5_keep_9 ⟨(Nat.le_of_ble_eq_true rfl), (Nat.le_of_ble_eq_true rfl)⟩ (fun H locs hP hD hS => ?_)
  have hP : va_P D vwCl [(h, .inr (5, [.ref c1, .int zz])), (c1, .inr (1, [.ref v1])), (v1, .inl (z 0, 100, .inl (cSet 100 kp zz x)))] H := hP
  have hD : va_D A [(h, .inr (5, [.ref c1, .int zz])), (c1, .inr (1, [.ref v1])), (v1, .inl (z 0, 100, .inl (cSet 100 kp zz x)))] := hD
  refine lv_aload_n hx hb dX5_keep_12 rfl (lv_at hl 0 rfl) ?_
  refine lv_dup hx hb dX5_keep_13 rfl ?_
  refine va_get (D := D) (ci := 5) (v := .int zz) (C := RX5) (T := TX5) (N := 2) hx hb hts in_X5_keep_X5 hown hK hP 0 rfl rfl 1 (by decide) (hts (.fieldLink RX5 20 "TypingCoach$Speeds" "size" "I") (List.mem_of_getElem? (i := 2) rfl)) (fun _ h9 => h9) rfl dX5_keep_14 ?_
  refine lv_iconst (v := 1) hx hb dX5_keep_17 (by decide) ?_
  refine lv_iadd hx hb dX5_keep_18 ?_
  refine va_put (D := D) (ci := 5) (v := .int (zz + 1)) (ty := .int) (C := RX5) (T := TX5) (N := 2) hx hb hts in_X5_keep_X5 tyX5 tyX5_ok nmX5 hown hK hP hD hS 0 rfl rfl 1 (by decide) (hts (.fieldLink RX5 20 "TypingCoach$Speeds" "size" "I") (List.mem_of_getElem? (i := 2) rfl)) (fun _ h9 => h9) rfl (by decide +kernel) rfl rfl (Nat.le_of_ble_eq_true rfl) dX5_keep_19 (fun H locs hP hD hS => ?_)
  have hP : va_P D vwCl [(h, .inr (5, [.ref c1, .int (zz + 1)])), (c1, .inr (1, [.ref v1])), (v1, .inl (z 0, 100, .inl (cSet 100 kp zz x)))] H := hP
  have hD : va_D A [(h, .inr (5, [.ref c1, .int (zz + 1)])), (c1, .inr (1, [.ref v1])), (v1, .inl (z 0, 100, .inl (cSet 100 kp zz x)))] := hD
  exact wr_v hx hb hr hlocks hP hD hS dX5_keep_22 (rfl) (Nat.le_refl _) (Nat.le_refl _)
end
section
/-! ===== facts for the loops of the letters that are in ===== -/
theorem nz0 : vp_nar .boolean 0 = 0 := rfl
theorem nz1 : vp_nar .boolean 1 = 1 := rfl
theorem i26 {j : Nat} (h : j < 26) : j < 2 ^ 31 := Nat.lt_trans h (Nat.le_of_ble_eq_true rfl)
theorem lIn_nI (ia : Nat → Int32) {j : Nat} (h : j < 26) : lIn ia (nI j) = if ia j = 0 then 0 else 1 := by
  have h1 : ¬ nI j < 0 := nI_pos (i26 h)
  have h2 : ¬ (26 : Int32) ≤ nI j := fun hc => by
    have := (nI_leI (a := 26) (Nat.le_of_ble_eq_true rfl) (i26 h)).mp hc
    omega
  simp only [lIn, h1, h2, ↓reduceIte]
  rw [nI_clamp (i26 h)]
theorem lMsk_at (o : Nat → Bool) (j : Nat) (f : Nat → Int32) (x : Int32) : lMsk o j f x j = f j := by simp [lMsk]
theorem lIn_msk (o : Nat → Bool) (ia : Nat → Int32) (x : Int32) {j : Nat} (h : j < 26) : lIn (lMsk o j ia x) (nI j) = lIn ia (nI j) := by rw [lIn_nI _ h, lIn_nI _ h, lMsk_at]
theorem fOut_msk (o : Nat → Bool) (ct sh : Nat → Int32) (x y : Int32) {j : Nat} (h : j < 26) : fOut (lMsk o j ct x) (lMsk o j sh y) (nI j) = fOut ct sh (nI j) := by
  simp only [fOut, cAt_nI _ h (Nat.le_of_ble_eq_true rfl : 26 < 2 ^ 31), lMsk_at]
theorem lMsk_4 (o : Nat → Bool) (f : Nat → Int32) (x : Int32) : lMsk o 4 f x = f := by
  funext k
  have : ¬ ((4 ≤ k ∧ k < 4) ∧ o k = true) := fun h => by omega
  simp only [lMsk, this, ↓reduceIte]
theorem lMsk_f {o : Nat → Bool} {j : Nat} (ho : o j = false) (f : Nat → Int32) (x : Int32) : lMsk o j f x = lMsk o (j + 1) f x := by
  funext k
  by_cases h : k = j
  · subst h; simp [lMsk, ho]
  · have e : (k < j + 1) ↔ (k < j) := by omega
    simp only [lMsk, e]
theorem lMsk_t {o : Nat → Bool} {j : Nat} (ho : o j = true) (h4 : 4 ≤ j) (f : Nat → Int32) (x : Int32) : upd (lMsk o j f x) j x = lMsk o (j + 1) f x := by
  funext k
  by_cases h : k = j
  · subst h; rw [pk_us]; simp [lMsk, ho, h4]
  · rw [pk_un h]
    have e : (k < j + 1) ↔ (k < j) := by omega
    simp only [lMsk, e]
theorem lAny_4 (o : Nat → Bool) : lAny o 4 = 0 := by simp [lAny]
theorem lAny_f {o : Nat → Bool} {j : Nat} (ho : o j = false) : lAny o (j + 1) = lAny o j := by simp [lAny, ho]
theorem lAny_t {o : Nat → Bool} {j : Nat} (ho : o j = true) (h4 : 4 ≤ j) : lAny o (j + 1) = 1 := by simp [lAny, ho, h4]
theorem lGo_f1 {ia ct sh : Nat → Int32} {j : Nat} (h : lIn ia (nI j) = 0) : lGo ia ct sh j = false := by simp [lGo, h]
theorem lGo_f2 {ia ct sh : Nat → Int32} {j : Nat} (h : fOut ct sh (nI j) = 0) : lGo ia ct sh j = false := by simp [lGo, h]
theorem lGo_t {ia ct sh : Nat → Int32} {j : Nat} (h : ¬ lIn ia (nI j) = 0) (h2 : ¬ fOut ct sh (nI j) = 0) : lGo ia ct sh j = true := by simp [lGo, h, h2]
theorem lFst_t {o : Nat → Bool} {j : Nat} (ho : o j = true) (hj : j < 26) : lFst o (26 - j) j = j := by
  rw [show 26 - j = (25 - j) + 1 by omega, lFst, if_pos ho]
theorem lFst_f {o : Nat → Bool} {j : Nat} (ho : o j = false) (hj : j < 26) : lFst o (26 - j) j = lFst o (26 - (j + 1)) (j + 1) := by
  rw [show 26 - j = (26 - (j + 1)) + 1 by omega, lFst, if_neg (by rw [ho]; decide)]
theorem pFall_e1 {kp : Nat → Int32} {k r N : Nat} {x y : Int32} (hy : y = nI k ∨ (y = -1 ∧ k = 0)) (hxr : x = nI r) (hrk : r + pFall kp k = pFall kp N) (hk : k ≤ 100) (c : y ≤ 0) : x = nI (pFall kp N) := by
  have h0 : k = 0 := by
    rcases hy with rfl | ⟨-, h⟩
    · have := (nI_leI (a := k) (b := 0) (by omega) (by omega)).mp c
      omega
    · exact h
  subst h0
  rw [hxr, ← hrk]; rfl
theorem pFall_y {k : Nat} {y : Int32} (hy : y = nI k ∨ (y = -1 ∧ k = 0)) (c : ¬ y ≤ 0) : ∃ k9, k = k9 + 1 ∧ y = nI (k9 + 1) := by
  rcases hy with rfl | ⟨rfl, -⟩
  · cases k with
    | zero => exact absurd (by decide) c
    | succ k => exact ⟨k, rfl, rfl⟩
  · exact absurd (by decide) c
theorem nI_m1 (k : Nat) : nI (k + 1) - 1 = nI k := by rw [show (1 : Int32) = nI 1 from rfl, pk_sub (by omega : 1 ≤ k + 1)]; rfl
theorem pFall_e2 {kp : Nat → Int32} {k r N : Nat} {x y : Int32} (hy : y = nI k ∨ (y = -1 ∧ k = 0)) (hxr : x = nI r) (hrk : r + pFall kp k = pFall kp N) (c : ¬ y ≤ 0) (c2 : cAt 100 kp (y - 1) ≤ cAt 100 kp y) : x = nI (pFall kp N) := by
  obtain ⟨k9, rfl, rfl⟩ := pFall_y hy c
  rw [nI_m1] at c2
  have h : ¬ cAt 100 kp (nI (k9 + 1)) < cAt 100 kp (nI k9) := fun h => by
    have h1 := Int32.lt_iff_toInt_lt.mp h
    have h2 := Int32.le_iff_toInt_le.mp c2
    omega
  rw [hxr, ← hrk, pFall, if_neg h]
  rfl
theorem pFall_s {kp : Nat → Int32} {k r N : Nat} {x y : Int32} (hy : y = nI k ∨ (y = -1 ∧ k = 0)) (hxr : x = nI r) (hrk : r + pFall kp k = pFall kp N) (c : ¬ y ≤ 0) (c2 : ¬ cAt 100 kp (y - 1) ≤ cAt 100 kp y) : ∃ k9, k = k9 + 1 ∧ y + (-1) = nI k9 ∧ x + 1 = nI (r + 1) ∧ (r + 1) + pFall kp k9 = pFall kp N := by
  obtain ⟨k9, rfl, rfl⟩ := pFall_y hy c
  rw [nI_m1] at c2
  have h : cAt 100 kp (nI (k9 + 1)) < cAt 100 kp (nI k9) := by
    have h2 : ¬ (cAt 100 kp (nI k9)).toInt ≤ (cAt 100 kp (nI (k9 + 1))).toInt := fun h => c2 (Int32.le_iff_toInt_le.mpr h)
    exact Int32.lt_iff_toInt_lt.mpr (by omega)
  refine ⟨k9, rfl, pk_m1 k9, by rw [hxr]; exact nI_1 r, ?_⟩
  rw [pFall, if_pos h] at hrk
  omega
theorem lAny_n (o : Nat → Bool) : ∀ j, narrow .boolean (.int (lAny o j)) = .int (lAny o j)
  | 0 => by rw [lAny]; rfl
  | j + 1 => by
    by_cases h : 4 ≤ j ∧ o j = true
    · rw [lAny, if_pos h]; rfl
    · rw [lAny, if_neg h]; exact lAny_n o j
end
section
/-! ===== Speeds.falls, LettersIn ===== -/
set_option maxRecDepth 20000 in
theorem in_X5_fallsAtTheEnd_X5 : ∀ w ∈ wsX50, w ∈ wsX5_fallsAtTheEnd := mem_r _ [9, 10] (by decide +kernel)
theorem hd_X5_fallsAtTheEnd : yX5_fallsAtTheEnd.cls = RX5 ∧ yX5_fallsAtTheEnd.cls ≠ "java/lang/invoke/MethodHandle" ∧ yX5_fallsAtTheEnd.cls ≠ "java/lang/invoke/VarHandle" ∧ (parseMethodDescriptor yX5_fallsAtTheEnd.desc).map (fun d => d.parameters.length) = some 0 := by decide +kernel
set_option maxHeartbeats 4000000 in
set_option maxRecDepth 100000 in
theorem c_X5_fallsAtTheEnd (l : Launch) (D : va_G) (z : Nat → ClassId) (q : Nat → Nat) (h : Nat) (c1 : Nat) (v1 : Nat) (kp : Nat → Int32) (zz : Int32) (zn : Nat) (hzz : zz = nI zn) (hz : zn ≤ 100) : RD l yX5_fallsAtTheEnd wsX5_fallsAtTheEnd ({ frames := 1, cells := 0, slots := 0, locals := 21 } : Room) D z q [.ref h] [(h, .inr (5, [.ref c1, .int zz])), (c1, .inr (1, [.ref v1])), (v1, .inl (z 0, 100, .inl kp))] (some (.int (nI (pFall kp (zn - 1))))) := by
  refine RD_mk (cc := cX5_fallsAtTheEnd) (maxL := 3) (ret := (some .int)) (by decide) rfl (Nat.le_of_ble_eq_true rfl) ?_
  intro p e s m below meth c hx hb hr hml hts hown hlocks hP hE hS hA ls hl
  have hK := hE.1
  have hown : s.vm.findClass RX5 = some m.cls := hown
  have hl : lv_has ls 3 [(0, .ref h)] := hl
  have hy0 : zz - 1 = nI (zn - 1) ∨ (zz - 1 = -1 ∧ zn - 1 = 0) := by
    subst hzz
    cases zn with
    | zero => exact Or.inr ⟨by decide, rfl⟩
    | succ k => exact Or.inl (nI_m1 k)
  refine lv_iconst (v := 0) hx hb dX5_fallsAtTheEnd_0 (by decide) ?_
  refine lv_istore_n (lv' := [(1, .int 0), (0, .ref h)]) hx hb dX5_fallsAtTheEnd_1 rfl hl (by decide) rfl (fun ls hl => ?_)
  refine lv_aload_n hx hb dX5_fallsAtTheEnd_2 rfl (lv_at hl 1 rfl) ?_
  refine va_get (D := D) (ci := 5) (v := .int zz) (C := RX5) (T := TX5) (N := 2) hx hb hts in_X5_fallsAtTheEnd_X5 hown hK hP 0 rfl rfl 1 (by decide) (hts (.fieldLink RX5 20 "TypingCoach$Speeds" "size" "I") (List.mem_of_getElem? (i := 1) rfl)) (fun _ h9 => h9) rfl dX5_fallsAtTheEnd_3 ?_
  refine lv_iconst (v := 1) hx hb dX5_fallsAtTheEnd_6 (by decide) ?_
  refine lv_isub hx hb dX5_fallsAtTheEnd_7 ?_
  refine lv_istore_n (lv' := [(2, .int (zz - 1)), (1, .int 0), (0, .ref h)]) hx hb dX5_fallsAtTheEnd_8 rfl hl (by decide) rfl (fun ls hl => ?_)
  have loop_1 : ∀ (n : Nat) (k : Nat) (r : Nat) (x : Int32) (y : Int32), k ≤ 100 → k < n → (y = nI k ∨ (y = -1 ∧ k = 0)) → x = nI r → r + pFall kp k = pFall kp (zn - 1) → ∀ ls : Array Slot, lv_has ls 3 [(2, .int y), (1, .int x), (0, .ref h)] → W p l e ({ frames := 1, cells := 0, slots := 0, locals := 21 } : Room) s m ([.ref h] : List Value).toArray below meth c s.heap [] 0 0 (MQ below (QR (some (.int (nI (pFall kp (zn - 1)))))) ([.ref h] : List Value).toArray s 0 0 (fun _ => False)) (F0 m 9 ls []) := by
    intro n
    induction n with
    | zero => intro k r x y hk hf hy hxr hrk; exact absurd hf (by omega)
    | succ n ih =>
      intro k r x y hk hf hy hxr hrk ls hl
      refine lv_iload_n hx hb dX5_fallsAtTheEnd_9 rfl (lv_at hl 0 rfl) ?_
      refine lv_if_le (tgt := 43) hx hb dX5_fallsAtTheEnd_10 (by decide) (fun c_2 => ?_) (fun c_2 => ?_)
      · refine lv_iload_n hx hb dX5_fallsAtTheEnd_43 rfl (lv_at hl 1 rfl) ?_
        exact rd_i hx hb hr hlocks dX5_fallsAtTheEnd_44 (pFall_e1 hy hxr hrk hk c_2)
      · refine lv_aload_n hx hb dX5_fallsAtTheEnd_13 rfl (lv_at hl 2 rfl) ?_
        refine va_get (D := D) (ci := 5) (v := .ref c1) (C := RX5) (T := TX5) (N := 2) hx hb hts in_X5_fallsAtTheEnd_X5 hown hK hP 0 rfl rfl 0 (by decide) (hts (.fieldLink RX5 14 "TypingCoach$Speeds" "kept" "LTypingCoach$Cells;") (List.mem_of_getElem? (i := 2) rfl)) (fun _ h9 => h9) rfl dX5_fallsAtTheEnd_14 ?_
        refine lv_iload_n hx hb dX5_fallsAtTheEnd_17 rfl (lv_at hl 0 rfl) ?_
        refine rdV (As := [.int y]) (rest := []) ⟨hx, hb, hml, hown, hts⟩ (c_X1_at l D z q c1 v1 100 kp y (Nat.le_of_ble_eq_true rfl)) (cwV 1 hts gX5_fallsAtTheEnd_X1_at rfl rfl rfl hd_X1_at ⟨Nat.le_of_ble_eq_true rfl, Nat.le_of_ble_eq_true rfl⟩) hE hS hA hP [1, 2] rfl rfl rfl rfl rfl hl.1 rfl (Nat.le_of_ble_eq_true rfl) dX5_fallsAtTheEnd_18 ⟨(Nat.le_of_ble_eq_true rfl), (Nat.le_of_ble_eq_true rfl)⟩ ?_
        refine lv_aload_n hx hb dX5_fallsAtTheEnd_21 rfl (lv_at hl 2 rfl) ?_
        refine va_get (D := D) (ci := 5) (v := .ref c1) (C := RX5) (T := TX5) (N := 2) hx hb hts in_X5_fallsAtTheEnd_X5 hown hK hP 0 rfl rfl 0 (by decide) (hts (.fieldLink RX5 14 "TypingCoach$Speeds" "kept" "LTypingCoach$Cells;") (List.mem_of_getElem? (i := 2) rfl)) (fun _ h9 => h9) rfl dX5_fallsAtTheEnd_22 ?_
        refine lv_iload_n hx hb dX5_fallsAtTheEnd_25 rfl (lv_at hl 0 rfl) ?_
        refine lv_iconst (v := 1) hx hb dX5_fallsAtTheEnd_26 (by decide) ?_
        refine lv_isub hx hb dX5_fallsAtTheEnd_27 ?_
        refine rdV (As := [.int (y - 1)]) (rest := [.int (cAt 100 kp y)]) ⟨hx, hb, hml, hown, hts⟩ (c_X1_at l D z q c1 v1 100 kp (y - 1) (Nat.le_of_ble_eq_true rfl)) (cwV 1 hts gX5_fallsAtTheEnd_X1_at rfl rfl rfl hd_X1_at ⟨Nat.le_of_ble_eq_true rfl, Nat.le_of_ble_eq_true rfl⟩) hE hS hA hP [1, 2] rfl rfl rfl rfl rfl hl.1 rfl (Nat.le_of_ble_eq_true rfl) dX5_fallsAtTheEnd_28 ⟨(Nat.le_of_ble_eq_true rfl), (Nat.le_of_ble_eq_true rfl)⟩ ?_
        refine lv_icmp_ge (tgt := 43) hx hb dX5_fallsAtTheEnd_31 (by decide) (fun c_3 => ?_) (fun c_3 => ?_)
        · refine lv_iload_n hx hb dX5_fallsAtTheEnd_43 rfl (lv_at hl 1 rfl) ?_
          exact rd_i hx hb hr hlocks dX5_fallsAtTheEnd_44 (pFall_e2 hy hxr hrk c_2 c_3)
        · refine lv_iinc (v := x + 1) (lv' := [(1, .int (x + 1)), (2, .int y), (0, .ref h)]) hx hb dX5_fallsAtTheEnd_34 hl (k := 1) rfl (rfl) (by decide) rfl (fun ls hl => ?_)
          refine lv_iinc (v := y + (-1)) (lv' := [(2, .int (y + (-1))), (1, .int (x + 1)), (0, .ref h)]) hx hb dX5_fallsAtTheEnd_37 hl (k := 1) rfl (rfl) (by decide) rfl (fun ls hl => ?_)
          refine lv_goto (tgt := 9) hx hb dX5_fallsAtTheEnd_40 (by decide) ?_
          obtain ⟨k9, rfl, hy9, hx9, hr9⟩ := pFall_s hy hxr hrk c_2 c_3
          exact ih k9 (r + 1) (x + 1) (y + (-1)) (by omega) (by omega) (Or.inl hy9) hx9 hr9 ls (lv_sub hl [0, 1, 2] rfl)
  exact loop_1 101 (zn - 1) 0 0 (zz - 1) (by omega) (by omega) hy0 rfl (by omega) ls (lv_sub hl [0, 1, 2] rfl)
set_option maxRecDepth 20000 in
theorem in_X4_contains_X4 : ∀ w ∈ wsX40, w ∈ wsX4_contains := mem_r _ [2, 3] (by decide +kernel)
theorem hd_X4_contains : yX4_contains.cls = RX4 ∧ yX4_contains.cls ≠ "java/lang/invoke/MethodHandle" ∧ yX4_contains.cls ≠ "java/lang/invoke/VarHandle" ∧ (parseMethodDescriptor yX4_contains.desc).map (fun d => d.parameters.length) = some 1 := by decide +kernel
set_option maxHeartbeats 4000000 in
set_option maxRecDepth 100000 in
theorem c_X4_contains (l : Launch) (D : va_G) (z : Nat → ClassId) (q : Nat → Nat) (h : Nat) (a1 : Nat) (g : Nat) (ia : Nat → Int32) (i : Int32)  : RD l yX4_contains wsX4_contains ({ frames := 0, cells := 0, slots := 0, locals := 0 } : Room) D z q [.ref h, .int i] [(h, .inr (4, [.ref a1, .ref g])), (a1, .inl (z 1, 26, .inl ia))] (some (.int (lIn ia i))) := by
  refine RD_mk (cc := cX4_contains) (maxL := 2) (ret := (some .boolean)) (by decide) rfl (Nat.le_of_ble_eq_true rfl) ?_
  intro p e s m below meth c hx hb hr hml hts hown hlocks hP hE hS hA ls hl
  have hK := hE.1
  have hown : s.vm.findClass RX4 = some m.cls := hown
  have hl : lv_has ls 2 [(0, .ref h), (1, .int i)] := hl
  refine lv_iload_n hx hb dX4_contains_0 rfl (lv_at hl 1 rfl) ?_
  refine lv_if_lt (tgt := 26) hx hb dX4_contains_1 (by decide) (fun c_1 => ?_) (fun c_1 => ?_)
  · refine lv_iconst (v := 0) hx hb dX4_contains_26 (by decide) ?_
    exact rd_z hx hb hr hlocks dX4_contains_27 (by decide) (by simp only [lIn, if_pos c_1, ↓reduceIte])
  · refine lv_iload_n hx hb dX4_contains_4 rfl (lv_at hl 1 rfl) ?_
    refine lv_aload_n hx hb dX4_contains_5 rfl (lv_at hl 0 rfl) ?_
    refine va_get (D := D) (ci := 4) (v := .ref a1) (C := RX4) (T := TX4) (N := 2) hx hb hts in_X4_contains_X4 hown hK hP 0 rfl rfl 0 (by decide) (hts (.fieldLink RX4 9 "TypingCoach$LettersIn" "in" "[Z") (List.mem_of_getElem? (i := 1) rfl)) (fun _ h9 => h9) rfl dX4_contains_6 ?_
    refine va_alen (v := 26) hx hb hK hP 1 1 rfl rfl rfl dX4_contains_9 ?_
    refine lv_icmp_ge (tgt := 26) hx hb dX4_contains_10 (by decide) (fun c_2 => ?_) (fun c_2 => ?_)
    · refine lv_iconst (v := 0) hx hb dX4_contains_26 (by decide) ?_
      exact rd_z hx hb hr hlocks dX4_contains_27 (by decide) (by simp only [lIn, if_neg c_1, if_pos c_2, ↓reduceIte])
    · refine lv_aload_n hx hb dX4_contains_13 rfl (lv_at hl 0 rfl) ?_
      refine va_get (D := D) (ci := 4) (v := .ref a1) (C := RX4) (T := TX4) (N := 2) hx hb hts in_X4_contains_X4 hown hK hP 0 rfl rfl 0 (by decide) (hts (.fieldLink RX4 9 "TypingCoach$LettersIn" "in" "[Z") (List.mem_of_getElem? (i := 1) rfl)) (fun _ h9 => h9) rfl dX4_contains_14 ?_
      refine lv_iload_n hx hb dX4_contains_17 rfl (lv_at hl 1 rfl) ?_
      refine va_zald hx hb hK hP 1 1 rfl rfl (in_of (n := 26) (Nat.le_of_ble_eq_true rfl) c_1 c_2) dX4_contains_18 ?_
      refine lv_if_eq (tgt := 26) hx hb dX4_contains_19 (by decide) (fun c_3 => ?_) (fun c_3 => ?_)
      · refine lv_iconst (v := 0) hx hb dX4_contains_26 (by decide) ?_
        exact rd_z hx hb hr hlocks dX4_contains_27 (by decide) (by simp only [lIn, if_neg c_1, if_neg c_2, if_pos c_3, ↓reduceIte])
      · refine lv_iconst (v := 1) hx hb dX4_contains_22 (by decide) ?_
        refine lv_goto (tgt := 27) hx hb dX4_contains_23 (by decide) ?_
        exact rd_z hx hb hr hlocks dX4_contains_27 (by decide) (by simp only [lIn, if_neg c_1, if_neg c_2, if_neg c_3, ↓reduceIte])
set_option maxRecDepth 20000 in
theorem in_X4_weakestOfAll_X4 : ∀ w ∈ wsX40, w ∈ wsX4_weakestOfAll := mem_r _ [21, 22] (by decide +kernel)
theorem hd_X4_weakestOfAll : yX4_weakestOfAll.cls = RX4 ∧ yX4_weakestOfAll.cls ≠ "java/lang/invoke/MethodHandle" ∧ yX4_weakestOfAll.cls ≠ "java/lang/invoke/VarHandle" ∧ (parseMethodDescriptor yX4_weakestOfAll.desc).map (fun d => d.parameters.length) = some 0 := by decide +kernel
set_option maxHeartbeats 4000000 in
set_option maxRecDepth 100000 in
theorem c_X4_weakestOfAll (l : Launch) (D : va_G) (z : Nat → ClassId) (q : Nat → Nat) (h : Nat) (a1 : Nat) (g : Nat) (ia : Nat → Int32) (c1 : Nat) (v1 : Nat) (c2 : Nat) (v2 : Nat) (c3 : Nat) (v3 : Nat) (c4 : Nat) (v4 : Nat) (ct : Nat → Int32) (ti : Nat → Int32) (sh : Nat → Int32) (pr : Nat → Int32) (wt : Int32) (wh : Int32)  : RD l yX4_weakestOfAll wsX4_weakestOfAll ({ frames := 2, cells := 0, slots := 0, locals := 43 } : Room) D z q [.ref h] [(h, .inr (4, [.ref a1, .ref g])), (a1, .inl (z 1, 26, .inl ia)), (g, .inr (2, [.ref c1, .ref c2, .ref c3, .ref c4, .int wt, .int wh])), (c1, .inr (1, [.ref v1])), (v1, .inl (z 0, 26, .inl ct)), (c2, .inr (1, [.ref v2])), (v2, .inl (z 0, 26, .inl ti)), (c3, .inr (1, [.ref v3])), (v3, .inl (z 0, 26, .inl sh)), (c4, .inr (1, [.ref v4])), (v4, .inl (z 0, 676, .inl pr))] (some (.int (lWk ia ti sh 25))) := by
  refine RD_mk (cc := cX4_weakestOfAll) (maxL := 3) (ret := (some .int)) (by decide) rfl (Nat.le_of_ble_eq_true rfl) ?_
  intro p e s m below meth c hx hb hr hml hts hown hlocks hP hE hS hA ls hl
  have hK := hE.1
  have hown : s.vm.findClass RX4 = some m.cls := hown
  have hl : lv_has ls 3 [(0, .ref h)] := hl
  refine lv_iconst (v := 0) hx hb dX4_weakestOfAll_0 (by decide) ?_
  refine lv_istore_n (lv' := [(1, .int 0), (0, .ref h)]) hx hb dX4_weakestOfAll_1 rfl hl (by decide) rfl (fun ls hl => ?_)
  refine lv_iconst (v := 1) hx hb dX4_weakestOfAll_2 (by decide) ?_
  refine lv_istore_n (lv' := [(2, .int 1), (1, .int 0), (0, .ref h)]) hx hb dX4_weakestOfAll_3 rfl hl (by decide) rfl (fun ls hl => ?_)
  have loop_1 : ∀ (n : Nat) (j : Nat) (x : Int32), j ≤ 25 → 25 < j + n → x = lWk ia ti sh j → ∀ ls : Array Slot, lv_has ls 3 [(2, .int (nI (j + 1))), (1, .int x), (0, .ref h)] → W p l e ({ frames := 2, cells := 0, slots := 0, locals := 43 } : Room) s m ([.ref h] : List Value).toArray below meth c s.heap [] 0 0 (MQ below (QR (some (.int (lWk ia ti sh 25)))) ([.ref h] : List Value).toArray s 0 0 (fun _ => False)) (F0 m 4 ls []) := by
    intro n
    induction n with
    | zero => intro j x hj hf hxj; exact absurd hf (by omega)
    | succ n ih =>
      intro j x hj hf hxj ls hl
      refine lv_iload_n hx hb dX4_weakestOfAll_4 rfl (lv_at hl 0 rfl) ?_
      refine lv_bipush (v := 26) hx hb dX4_weakestOfAll_5 (by decide) ?_
      refine lv_icmp_ge (tgt := 38) hx hb dX4_weakestOfAll_7 (by decide) (fun c_2 => ?_) (fun c_2 => ?_)
      · have hj2 : j = 25 := by have := lpx (n := 26) c_2 (by omega) (Nat.le_of_ble_eq_true rfl) rfl; omega
        refine lv_iload_n hx hb dX4_weakestOfAll_38 rfl (lv_at hl 1 rfl) ?_
        exact rd_i hx hb hr hlocks dX4_weakestOfAll_39 (by rw [hxj, hj2])
      · have hjl : j < 25 := by have := lpn (n := 26) c_2 (by omega) (Nat.le_of_ble_eq_true rfl) rfl; omega
        refine lv_aload_n hx hb dX4_weakestOfAll_10 rfl (lv_at hl 2 rfl) ?_
        refine lv_iload_n hx hb dX4_weakestOfAll_11 rfl (lv_at hl 0 rfl) ?_
        refine rdV (As := [.int (nI (j + 1))]) (rest := []) ⟨hx, hb, hml, hown, hts⟩ (c_X4_contains l D z q h a1 g ia (nI (j + 1))) (cwV 1 hts gX4_weakestOfAll_X4_contains rfl rfl rfl hd_X4_contains ⟨Nat.le_of_ble_eq_true rfl, Nat.le_of_ble_eq_true rfl⟩) hE hS hA hP [0, 1] rfl rfl rfl rfl rfl hl.1 rfl (Nat.le_of_ble_eq_true rfl) dX4_weakestOfAll_12 ⟨(Nat.le_of_ble_eq_true rfl), (Nat.le_of_ble_eq_true rfl)⟩ ?_
        refine lv_if_eq (tgt := 32) hx hb dX4_weakestOfAll_15 (by decide) (fun c_3 => ?_) (fun c_3 => ?_)
        · refine lv_iinc (v := nI (j + 1 + 1)) (lv' := [(2, .int (nI (j + 1 + 1))), (1, .int x), (0, .ref h)]) hx hb dX4_weakestOfAll_32 hl (k := 0) rfl (nI_1 _) (by decide) rfl (fun ls hl => ?_)
          refine lv_goto (tgt := 4) hx hb dX4_weakestOfAll_35 (by decide) ?_
          exact ih (j + 1) x (by omega) (by omega) (by rw [lWk, ← hxj]; simp only [if_neg c_2, if_pos c_3, ↓reduceIte]) ls (lv_sub hl [0, 1, 2] rfl)
        · refine lv_aload_n hx hb dX4_weakestOfAll_18 rfl (lv_at hl 2 rfl) ?_
          refine va_get (D := D) (ci := 4) (v := .ref g) (C := RX4) (T := TX4) (N := 2) hx hb hts in_X4_weakestOfAll_X4 hown hK hP 0 rfl rfl 1 (by decide) (hts (.fieldLink RX4 15 "TypingCoach$LettersIn" "figures" "LTypingCoach$Figures;") (List.mem_of_getElem? (i := 1) rfl)) (fun _ h9 => h9) rfl dX4_weakestOfAll_19 ?_
          refine lv_iload_n hx hb dX4_weakestOfAll_22 rfl (lv_at hl 0 rfl) ?_
          refine lv_iload_n hx hb dX4_weakestOfAll_23 rfl (lv_at hl 1 rfl) ?_
          refine rdV (As := [.int (nI (j + 1)), .int x]) (rest := []) ⟨hx, hb, hml, hown, hts⟩ (c_X2_isWeaker l D z q g c1 v1 c2 v2 c3 v3 c4 v4 ct ti sh pr wt wh (nI (j + 1)) x) (cwV 2 hts gX4_weakestOfAll_X2_isWeaker rfl rfl rfl hd_X2_isWeaker ⟨Nat.le_of_ble_eq_true rfl, Nat.le_of_ble_eq_true rfl⟩) hE hS hA hP [2, 3, 4, 5, 6, 7, 8, 9, 10] rfl rfl rfl rfl rfl hl.1 rfl (Nat.le_of_ble_eq_true rfl) dX4_weakestOfAll_24 ⟨(Nat.le_of_ble_eq_true rfl), (Nat.le_of_ble_eq_true rfl)⟩ ?_
          refine lv_if_eq (tgt := 32) hx hb dX4_weakestOfAll_27 (by decide) (fun c_5 => ?_) (fun c_5 => ?_)
          · refine lv_iinc (v := nI (j + 1 + 1)) (lv' := [(2, .int (nI (j + 1 + 1))), (1, .int x), (0, .ref h)]) hx hb dX4_weakestOfAll_32 hl (k := 0) rfl (nI_1 _) (by decide) rfl (fun ls hl => ?_)
            refine lv_goto (tgt := 4) hx hb dX4_weakestOfAll_35 (by decide) ?_
            exact ih (j + 1) x (by omega) (by omega) (by rw [lWk, ← hxj]; simp only [if_neg c_2, if_neg c_3, if_pos c_5, ↓reduceIte]) ls (lv_sub hl [0, 1, 2] rfl)
          · refine lv_iload_n hx hb dX4_weakestOfAll_30 rfl (lv_at hl 0 rfl) ?_
            refine lv_istore_n (lv' := [(1, .int (nI (j + 1))), (2, .int (nI (j + 1))), (0, .ref h)]) hx hb dX4_weakestOfAll_31 rfl hl (by decide) rfl (fun ls hl => ?_)
            refine lv_iinc (v := nI (j + 1 + 1)) (lv' := [(2, .int (nI (j + 1 + 1))), (1, .int (nI (j + 1))), (0, .ref h)]) hx hb dX4_weakestOfAll_32 hl (k := 1) rfl (nI_1 _) (by decide) rfl (fun ls hl => ?_)
            refine lv_goto (tgt := 4) hx hb dX4_weakestOfAll_35 (by decide) ?_
            exact ih (j + 1) (nI (j + 1)) (by omega) (by omega) (by rw [lWk, ← hxj]; simp only [if_neg c_2, if_neg c_3, if_neg c_5, ↓reduceIte]) ls (lv_sub hl [0, 1, 2] rfl)
  exact loop_1 26 0 0 (by omega) (by omega) rfl ls (lv_sub hl [0, 1, 2] rfl)
set_option maxRecDepth 20000 in
theorem in_X4_slowestBehind_X4 : ∀ w ∈ wsX40, w ∈ wsX4_slowestBehind := mem_r _ [23, 24] (by decide +kernel)
theorem hd_X4_slowestBehind : yX4_slowestBehind.cls = RX4 ∧ yX4_slowestBehind.cls ≠ "java/lang/invoke/MethodHandle" ∧ yX4_slowestBehind.cls ≠ "java/lang/invoke/VarHandle" ∧ (parseMethodDescriptor yX4_slowestBehind.desc).map (fun d => d.parameters.length) = some 1 := by decide +kernel
set_option maxHeartbeats 4000000 in
set_option maxRecDepth 100000 in
theorem c_X4_slowestBehind (l : Launch) (D : va_G) (z : Nat → ClassId) (q : Nat → Nat) (h : Nat) (a1 : Nat) (g : Nat) (ia : Nat → Int32) (c1 : Nat) (v1 : Nat) (c2 : Nat) (v2 : Nat) (c3 : Nat) (v3 : Nat) (c4 : Nat) (v4 : Nat) (ct : Nat → Int32) (ti : Nat → Int32) (sh : Nat → Int32) (pr : Nat → Int32) (wt : Int32) (wh : Int32) (b : Int32)  : RD l yX4_slowestBehind wsX4_slowestBehind ({ frames := 2, cells := 0, slots := 0, locals := 43 } : Room) D z q [.ref h, .int b] [(h, .inr (4, [.ref a1, .ref g])), (a1, .inl (z 1, 26, .inl ia)), (g, .inr (2, [.ref c1, .ref c2, .ref c3, .ref c4, .int wt, .int wh])), (c1, .inr (1, [.ref v1])), (v1, .inl (z 0, 26, .inl ct)), (c2, .inr (1, [.ref v2])), (v2, .inl (z 0, 26, .inl ti)), (c3, .inr (1, [.ref v3])), (v3, .inl (z 0, 26, .inl sh)), (c4, .inr (1, [.ref v4])), (v4, .inl (z 0, 676, .inl pr))] (some (.int ((lSb ia pr b 26).1))) := by
  refine RD_mk (cc := cX4_slowestBehind) (maxL := 6) (ret := (some .int)) (by decide) rfl (Nat.le_of_ble_eq_true rfl) ?_
  intro p e s m below meth c hx hb hr hml hts hown hlocks hP hE hS hA ls hl
  have hK := hE.1
  have hown : s.vm.findClass RX4 = some m.cls := hown
  have hl : lv_has ls 6 [(0, .ref h), (1, .int b)] := hl
  refine lv_iconst (v := (-1)) hx hb dX4_slowestBehind_0 (by decide) ?_
  refine lv_istore_n (lv' := [(2, .int (-1)), (0, .ref h), (1, .int b)]) hx hb dX4_slowestBehind_1 rfl hl (by decide) rfl (fun ls hl => ?_)
  refine lv_iconst (v := (-1)) hx hb dX4_slowestBehind_2 (by decide) ?_
  refine lv_istore_n (lv' := [(3, .int (-1)), (2, .int (-1)), (0, .ref h), (1, .int b)]) hx hb dX4_slowestBehind_3 rfl hl (by decide) rfl (fun ls hl => ?_)
  refine lv_iconst (v := 0) hx hb dX4_slowestBehind_4 (by decide) ?_
  refine lv_istore (lv' := [(4, .int 0), (3, .int (-1)), (2, .int (-1)), (0, .ref h), (1, .int b)]) hx hb dX4_slowestBehind_5 hl (by decide) rfl (fun ls hl => ?_)
  have loop_1 : ∀ (n : Nat) (j : Nat) (x : Int32) (y : Int32), j ≤ 26 → 26 < j + n → x = (lSb ia pr b j).1 → y = (lSb ia pr b j).2 → ∀ ls : Array Slot, lv_has ls 6 [(4, .int (nI j)), (2, .int x), (3, .int y), (0, .ref h), (1, .int b)] → W p l e ({ frames := 2, cells := 0, slots := 0, locals := 43 } : Room) s m ([.ref h, .int b] : List Value).toArray below meth c s.heap [] 0 0 (MQ below (QR (some (.int ((lSb ia pr b 26).1)))) ([.ref h, .int b] : List Value).toArray s 0 0 (fun _ => False)) (F0 m 7 ls []) := by
    intro n
    induction n with
    | zero => intro j x y hj hf hxj hyj; exact absurd hf (by omega)
    | succ n ih =>
      intro j x y hj hf hxj hyj ls hl
      refine lv_iload hx hb dX4_slowestBehind_7 (lv_at hl 0 rfl) ?_
      refine lv_bipush (v := 26) hx hb dX4_slowestBehind_9 (by decide) ?_
      refine lv_icmp_ge (tgt := 59) hx hb dX4_slowestBehind_11 (by decide) (fun c_2 => ?_) (fun c_2 => ?_)
      · have hj2 : j = 26 := lpx c_2 hj (Nat.le_of_ble_eq_true rfl) rfl
        refine lv_iload_n hx hb dX4_slowestBehind_59 rfl (lv_at hl 1 rfl) ?_
        exact rd_i hx hb hr hlocks dX4_slowestBehind_60 (by rw [hxj, hj2])
      · have hjl : j < 26 := lpn c_2 hj (Nat.le_of_ble_eq_true rfl) rfl
        refine lv_aload_n hx hb dX4_slowestBehind_14 rfl (lv_at hl 3 rfl) ?_
        refine va_get (D := D) (ci := 4) (v := .ref g) (C := RX4) (T := TX4) (N := 2) hx hb hts in_X4_slowestBehind_X4 hown hK hP 0 rfl rfl 1 (by decide) (hts (.fieldLink RX4 15 "TypingCoach$LettersIn" "figures" "LTypingCoach$Figures;") (List.mem_of_getElem? (i := 1) rfl)) (fun _ h9 => h9) rfl dX4_slowestBehind_15 ?_
        refine lv_iload_n hx hb dX4_slowestBehind_18 rfl (lv_at hl 4 rfl) ?_
        refine lv_iload hx hb dX4_slowestBehind_19 (lv_at hl 0 rfl) ?_
        refine rdV (As := [.int b, .int (nI j)]) (rest := []) ⟨hx, hb, hml, hown, hts⟩ (c_X2_timeOfPair l D z q g c1 v1 c2 v2 c3 v3 c4 v4 ct ti sh pr wt wh b (nI j)) (cwV 2 hts gX4_slowestBehind_X2_timeOfPair rfl rfl rfl hd_X2_timeOfPair ⟨Nat.le_of_ble_eq_true rfl, Nat.le_of_ble_eq_true rfl⟩) hE hS hA hP [2, 3, 4, 5, 6, 7, 8, 9, 10] rfl rfl rfl rfl rfl hl.1 rfl (Nat.le_of_ble_eq_true rfl) dX4_slowestBehind_21 ⟨(Nat.le_of_ble_eq_true rfl), (Nat.le_of_ble_eq_true rfl)⟩ ?_
        refine lv_istore (lv' := [(5, .int (cAt 676 pr (fPair b (nI j)))), (4, .int (nI j)), (2, .int x), (3, .int y), (0, .ref h), (1, .int b)]) hx hb dX4_slowestBehind_24 hl (by decide) rfl (fun ls hl => ?_)
        refine lv_aload_n hx hb dX4_slowestBehind_26 rfl (lv_at hl 4 rfl) ?_
        refine lv_iload hx hb dX4_slowestBehind_27 (lv_at hl 1 rfl) ?_
        refine rdV (As := [.int (nI j)]) (rest := []) ⟨hx, hb, hml, hown, hts⟩ (c_X4_contains l D z q h a1 g ia (nI j)) (cwV 1 hts gX4_slowestBehind_X4_contains rfl rfl rfl hd_X4_contains ⟨Nat.le_of_ble_eq_true rfl, Nat.le_of_ble_eq_true rfl⟩) hE hS hA hP [0, 1] rfl rfl rfl rfl rfl hl.1 rfl (Nat.le_of_ble_eq_true rfl) dX4_slowestBehind_29 ⟨(Nat.le_of_ble_eq_true rfl), (Nat.le_of_ble_eq_true rfl)⟩ ?_
        refine lv_if_eq (tgt := 53) hx hb dX4_slowestBehind_32 (by decide) (fun c_3 => ?_) (fun c_3 => ?_)
        · refine lv_iinc (v := nI (j + 1)) (lv' := [(4, .int (nI (j + 1))), (5, .int (cAt 676 pr (fPair b (nI j)))), (2, .int x), (3, .int y), (0, .ref h), (1, .int b)]) hx hb dX4_slowestBehind_53 hl (k := 1) rfl (nI_1 j) (by decide) rfl (fun ls hl => ?_)
          refine lv_goto (tgt := 7) hx hb dX4_slowestBehind_56 (by decide) ?_
          exact ih (j + 1) x y (by omega) (by omega) (by rw [lSb]; simp only [← hyj, ← hxj, if_neg c_2, if_pos c_3]) (by rw [lSb]; simp only [← hyj, ← hxj, if_neg c_2, if_pos c_3]) ls (lv_sub hl [0, 2, 3, 4, 5] rfl)
        · refine lv_iload hx hb dX4_slowestBehind_35 (lv_at hl 1 rfl) ?_
          refine lv_iload_n hx hb dX4_slowestBehind_37 rfl (lv_at hl 5 rfl) ?_
          refine lv_icmp_eq (tgt := 53) hx hb dX4_slowestBehind_38 (by decide) (fun c_5 => ?_) (fun c_5 => ?_)
          · refine lv_iinc (v := nI (j + 1)) (lv' := [(4, .int (nI (j + 1))), (5, .int (cAt 676 pr (fPair b (nI j)))), (2, .int x), (3, .int y), (0, .ref h), (1, .int b)]) hx hb dX4_slowestBehind_53 hl (k := 1) rfl (nI_1 j) (by decide) rfl (fun ls hl => ?_)
            refine lv_goto (tgt := 7) hx hb dX4_slowestBehind_56 (by decide) ?_
            exact ih (j + 1) x y (by omega) (by omega) (by rw [lSb]; simp only [← hyj, ← hxj, if_neg c_2, if_neg c_3, if_pos c_5]) (by rw [lSb]; simp only [← hyj, ← hxj, if_neg c_2, if_neg c_3, if_pos c_5]) ls (lv_sub hl [0, 2, 3, 4, 5] rfl)
          · refine lv_iload hx hb dX4_slowestBehind_41 (lv_at hl 0 rfl) ?_
            refine lv_iload_n hx hb dX4_slowestBehind_43 rfl (lv_at hl 3 rfl) ?_
            refine lv_icmp_le (tgt := 53) hx hb dX4_slowestBehind_44 (by decide) (fun c_7 => ?_) (fun c_7 => ?_)
            · refine lv_iinc (v := nI (j + 1)) (lv' := [(4, .int (nI (j + 1))), (5, .int (cAt 676 pr (fPair b (nI j)))), (2, .int x), (3, .int y), (0, .ref h), (1, .int b)]) hx hb dX4_slowestBehind_53 hl (k := 1) rfl (nI_1 j) (by decide) rfl (fun ls hl => ?_)
              refine lv_goto (tgt := 7) hx hb dX4_slowestBehind_56 (by decide) ?_
              exact ih (j + 1) x y (by omega) (by omega) (by rw [lSb]; simp only [← hyj, ← hxj, if_neg c_2, if_neg c_3, if_neg c_5, if_pos c_7]) (by rw [lSb]; simp only [← hyj, ← hxj, if_neg c_2, if_neg c_3, if_neg c_5, if_pos c_7]) ls (lv_sub hl [0, 2, 3, 4, 5] rfl)
            · refine lv_iload hx hb dX4_slowestBehind_47 (lv_at hl 1 rfl) ?_
              refine lv_istore_n (lv' := [(2, .int (nI j)), (5, .int (cAt 676 pr (fPair b (nI j)))), (4, .int (nI j)), (3, .int y), (0, .ref h), (1, .int b)]) hx hb dX4_slowestBehind_49 rfl hl (by decide) rfl (fun ls hl => ?_)
              refine lv_iload hx hb dX4_slowestBehind_50 (lv_at hl 1 rfl) ?_
              refine lv_istore_n (lv' := [(3, .int (cAt 676 pr (fPair b (nI j)))), (2, .int (nI j)), (5, .int (cAt 676 pr (fPair b (nI j)))), (4, .int (nI j)), (0, .ref h), (1, .int b)]) hx hb dX4_slowestBehind_52 rfl hl (by decide) rfl (fun ls hl => ?_)
              refine lv_iinc (v := nI (j + 1)) (lv' := [(4, .int (nI (j + 1))), (3, .int (cAt 676 pr (fPair b (nI j)))), (2, .int (nI j)), (5, .int (cAt 676 pr (fPair b (nI j)))), (0, .ref h), (1, .int b)]) hx hb dX4_slowestBehind_53 hl (k := 3) rfl (nI_1 j) (by decide) rfl (fun ls hl => ?_)
              refine lv_goto (tgt := 7) hx hb dX4_slowestBehind_56 (by decide) ?_
              exact ih (j + 1) (nI j) (cAt 676 pr (fPair b (nI j))) (by omega) (by omega) (by rw [lSb]; simp only [← hyj, ← hxj, if_neg c_2, if_neg c_3, if_neg c_5, if_neg c_7]) (by rw [lSb]; simp only [← hyj, ← hxj, if_neg c_2, if_neg c_3, if_neg c_5, if_neg c_7]) ls (lv_sub hl [0, 2, 1, 4, 5] rfl)
  exact loop_1 27 0 (-1) (-1) (by omega) (by omega) rfl rfl ls (lv_sub hl [0, 2, 1, 3, 4] rfl)
set_option maxRecDepth 20000 in
theorem in_X4_takeOut_X4 : ∀ w ∈ wsX40, w ∈ wsX4_takeOut := mem_r _ [30, 31] (by decide +kernel)
theorem hd_X4_takeOut : yX4_takeOut.cls = RX4 ∧ yX4_takeOut.cls ≠ "java/lang/invoke/MethodHandle" ∧ yX4_takeOut.cls ≠ "java/lang/invoke/VarHandle" ∧ (parseMethodDescriptor yX4_takeOut.desc).map (fun d => d.parameters.length) = some 0 := by decide +kernel
set_option maxHeartbeats 4000000 in
set_option maxRecDepth 100000 in
theorem c_X4_takeOut (l : Launch) (D : va_G) (z : Nat → ClassId) (q : Nat → Nat) (h : Nat) (a1 : Nat) (g : Nat) (ia : Nat → Int32) (c1 : Nat) (v1 : Nat) (c2 : Nat) (v2 : Nat) (c3 : Nat) (v3 : Nat) (c4 : Nat) (v4 : Nat) (ct : Nat → Int32) (ti : Nat → Int32) (sh : Nat → Int32) (pr : Nat → Int32) (wt : Int32) (wh : Int32) (sz : Nat)  : WR l yX4_takeOut wsX4_takeOut ({ frames := 2, cells := 0, slots := 0, locals := 43 } : Room) D z q [.ref h] [(h, .inr (4, [.ref a1, .ref g])), (a1, .inl (z 1, 26, .inl ia)), (g, .inr (2, [.ref c1, .ref c2, .ref c3, .ref c4, .int wt, .int wh])), (c1, .inr (1, [.ref v1])), (v1, .inl (z 0, 26, .inl ct)), (c2, .inr (1, [.ref v2])), (v2, .inl (z 0, 26, .inl ti)), (c3, .inr (1, [.ref v3])), (v3, .inl (z 0, 26, .inl sh)), (c4, .inr (1, [.ref v4])), (v4, .inl (z 0, 676, .inl pr))] sz [(h, .inr (4, [.ref a1, .ref g])), (a1, .inl (z 1, 26, .inl (lMsk (lGo ia ct sh) 26 ia 0))), (g, .inr (2, [.ref c1, .ref c2, .ref c3, .ref c4, .int wt, .int wh])), (c1, .inr (1, [.ref v1])), (v1, .inl (z 0, 26, .inl (lMsk (lGo ia ct sh) 26 ct 0))), (c2, .inr (1, [.ref v2])), (v2, .inl (z 0, 26, .inl (lMsk (lGo ia ct sh) 26 ti 400))), (c3, .inr (1, [.ref v3])), (v3, .inl (z 0, 26, .inl (lMsk (lGo ia ct sh) 26 sh 0))), (c4, .inr (1, [.ref v4])), (v4, .inl (z 0, 676, .inl pr))] (some (.int (lAny (lGo ia ct sh) 26))) := by
  refine WR_mk (Qc := fun A => QW D [(h, .inr (4, [.ref a1, .ref g])), (a1, .inl (z 1, 26, .inl (lMsk (lGo ia ct sh) 26 ia 0))), (g, .inr (2, [.ref c1, .ref c2, .ref c3, .ref c4, .int wt, .int wh])), (c1, .inr (1, [.ref v1])), (v1, .inl (z 0, 26, .inl (lMsk (lGo ia ct sh) 26 ct 0))), (c2, .inr (1, [.ref v2])), (v2, .inl (z 0, 26, .inl (lMsk (lGo ia ct sh) 26 ti 400))), (c3, .inr (1, [.ref v3])), (v3, .inl (z 0, 26, .inl (lMsk (lGo ia ct sh) 26 sh 0))), (c4, .inr (1, [.ref v4])), (v4, .inl (z 0, 676, .inl pr))] A (some (.int (lAny (lGo ia ct sh) 26)))) (cc := cX4_takeOut) (maxL := 3) (ret := (some .boolean)) (by decide) rfl (Nat.le_of_ble_eq_true rfl) ?_
  intro p e s m below meth c A hx hb hr hml hts hown hlocks hin0 H hP hD hE hS hA ls hl
  have hK := hE.1
  have hown : s.vm.findClass RX4 = some m.cls := hown
  have hl : lv_has ls 3 [(0, .ref h)] := hl
  refine lv_iconst (v := 0) hx hb dX4_takeOut_0 (by decide) ?_
  refine lv_istore_n (lv' := [(1, .int 0), (0, .ref h)]) hx hb dX4_takeOut_1 rfl hl (by decide) rfl (fun ls hl => ?_)
  refine lv_iconst (v := 4) hx hb dX4_takeOut_2 (by decide) ?_
  refine lv_istore_n (lv' := [(2, .int 4), (1, .int 0), (0, .ref h)]) hx hb dX4_takeOut_3 rfl hl (by decide) rfl (fun ls hl => ?_)
  have loop_1 : ∀ (n : Nat) (j : Nat) (x : Int32), 4 ≤ j → j ≤ 26 → 26 < j + n → x = lAny (lGo ia ct sh) j → ∀ (H : Heap) (locs : List Loc), va_P D vwCl [(h, .inr (4, [.ref a1, .ref g])), (a1, .inl (z 1, 26, .inl (lMsk (lGo ia ct sh) j ia 0))), (g, .inr (2, [.ref c1, .ref c2, .ref c3, .ref c4, .int wt, .int wh])), (c1, .inr (1, [.ref v1])), (v1, .inl (z 0, 26, .inl (lMsk (lGo ia ct sh) j ct 0))), (c2, .inr (1, [.ref v2])), (v2, .inl (z 0, 26, .inl (lMsk (lGo ia ct sh) j ti 400))), (c3, .inr (1, [.ref v3])), (v3, .inl (z 0, 26, .inl (lMsk (lGo ia ct sh) j sh 0))), (c4, .inr (1, [.ref v4])), (v4, .inl (z 0, 676, .inl pr))] H → va_D A [(h, .inr (4, [.ref a1, .ref g])), (a1, .inl (z 1, 26, .inl (lMsk (lGo ia ct sh) j ia 0))), (g, .inr (2, [.ref c1, .ref c2, .ref c3, .ref c4, .int wt, .int wh])), (c1, .inr (1, [.ref v1])), (v1, .inl (z 0, 26, .inl (lMsk (lGo ia ct sh) j ct 0))), (c2, .inr (1, [.ref v2])), (v2, .inl (z 0, 26, .inl (lMsk (lGo ia ct sh) j ti 400))), (c3, .inr (1, [.ref v3])), (v3, .inl (z 0, 26, .inl (lMsk (lGo ia ct sh) j sh 0))), (c4, .inr (1, [.ref v4])), (v4, .inl (z 0, 676, .inl pr))] → va_S A s.heap H locs → ∀ ls : Array Slot, lv_has ls 3 [(2, .int (nI j)), (1, .int x), (0, .ref h)] → W p l e ({ frames := 2, cells := 0, slots := 0, locals := 43 } : Room) s m ([.ref h] : List Value).toArray below meth c H locs 0 0 (MQ below (QW D [(h, .inr (4, [.ref a1, .ref g])), (a1, .inl (z 1, 26, .inl (lMsk (lGo ia ct sh) 26 ia 0))), (g, .inr (2, [.ref c1, .ref c2, .ref c3, .ref c4, .int wt, .int wh])), (c1, .inr (1, [.ref v1])), (v1, .inl (z 0, 26, .inl (lMsk (lGo ia ct sh) 26 ct 0))), (c2, .inr (1, [.ref v2])), (v2, .inl (z 0, 26, .inl (lMsk (lGo ia ct sh) 26 ti 400))), (c3, .inr (1, [.ref v3])), (v3, .inl (z 0, 26, .inl (lMsk (lGo ia ct sh) 26 sh 0))), (c4, .inr (1, [.ref v4])), (v4, .inl (z 0, 676, .inl pr))] A (some (.int (lAny (lGo ia ct sh) 26)))) ([.ref h] : List Value).toArray s 0 0 A) (F0 m 4 ls []) := by
    intro n
    induction n with
    | zero => intro j x h4 hj hf hxj; exact absurd hf (by omega)
    | succ n ih =>
      intro j x h4 hj hf hxj H locs hP hD hS ls hl
      refine lv_iload_n hx hb dX4_takeOut_4 rfl (lv_at hl 0 rfl) ?_
      refine lv_aload_n hx hb dX4_takeOut_5 rfl (lv_at hl 2 rfl) ?_
      refine va_get (D := D) (ci := 4) (v := .ref a1) (C := RX4) (T := TX4) (N := 2) hx hb hts in_X4_takeOut_X4 hown hK hP 0 rfl rfl 0 (by decide) (hts (.fieldLink RX4 9 "TypingCoach$LettersIn" "in" "[Z") (List.mem_of_getElem? (i := 1) rfl)) (fun _ h9 => h9) rfl dX4_takeOut_6 ?_
      refine va_alen (v := 26) hx hb hK hP 1 1 rfl rfl rfl dX4_takeOut_9 ?_
      refine lv_icmp_ge (tgt := 55) hx hb dX4_takeOut_10 (by decide) (fun c_2 => ?_) (fun c_2 => ?_)
      · have hj2 : j = 26 := lpx c_2 hj (Nat.le_of_ble_eq_true rfl) rfl
        refine lv_iload_n hx hb dX4_takeOut_55 rfl (lv_at hl 1 rfl) ?_
        exact wr_z hx hb hr hlocks (by rw [hxj, hj2]; exact lAny_n _ _) hP hD hS dX4_takeOut_56 (by rw [hj2]) (by rw [hxj, hj2]) (Nat.le_refl _) (Nat.le_refl _)
      · have hjl : j < 26 := lpn c_2 hj (Nat.le_of_ble_eq_true rfl) rfl
        refine lv_aload_n hx hb dX4_takeOut_13 rfl (lv_at hl 2 rfl) ?_
        refine lv_iload_n hx hb dX4_takeOut_14 rfl (lv_at hl 0 rfl) ?_
        refine rdV (As := [.int (nI j)]) (rest := []) ⟨hx, hb, hml, hown, hts⟩ (c_X4_contains l D z q h a1 g (lMsk (lGo ia ct sh) j ia 0) (nI j)) (cwV 1 hts gX4_takeOut_X4_contains rfl rfl rfl hd_X4_contains ⟨Nat.le_of_ble_eq_true rfl, Nat.le_of_ble_eq_true rfl⟩) hE hS hA hP [0, 1] rfl rfl rfl rfl rfl hl.1 rfl (Nat.le_of_ble_eq_true rfl) dX4_takeOut_15 ⟨(Nat.le_of_ble_eq_true rfl), (Nat.le_of_ble_eq_true rfl)⟩ ?_
        refine lv_if_eq (tgt := 49) hx hb dX4_takeOut_18 (by decide) (fun c_3 => ?_) (fun c_3 => ?_)
        · refine lv_iinc (v := nI (j + 1)) (lv' := [(2, .int (nI (j + 1))), (1, .int x), (0, .ref h)]) hx hb dX4_takeOut_49 hl (k := 0) rfl (nI_1 j) (by decide) rfl (fun ls hl => ?_)
          refine lv_goto (tgt := 4) hx hb dX4_takeOut_52 (by decide) ?_
          have ho : lGo ia ct sh j = false := lGo_f1 (by rw [← lIn_msk _ _ 0 hjl]; exact c_3)
          simp only [lMsk_f ho] at hP hD
          exact ih (j + 1) x (by omega) (by omega) (by omega) (by rw [lAny_f ho]; exact hxj) _ _ hP hD hS ls (lv_sub hl [0, 1, 2] rfl)
        · refine lv_aload_n hx hb dX4_takeOut_21 rfl (lv_at hl 2 rfl) ?_
          refine va_get (D := D) (ci := 4) (v := .ref g) (C := RX4) (T := TX4) (N := 2) hx hb hts in_X4_takeOut_X4 hown hK hP 0 rfl rfl 1 (by decide) (hts (.fieldLink RX4 15 "TypingCoach$LettersIn" "figures" "LTypingCoach$Figures;") (List.mem_of_getElem? (i := 2) rfl)) (fun _ h9 => h9) rfl dX4_takeOut_22 ?_
          refine lv_iload_n hx hb dX4_takeOut_25 rfl (lv_at hl 0 rfl) ?_
          refine rdV (As := [.int (nI j)]) (rest := []) ⟨hx, hb, hml, hown, hts⟩ (c_X2_mustGoOut l D z q g c1 v1 c2 v2 c3 v3 c4 v4 (lMsk (lGo ia ct sh) j ct 0) (lMsk (lGo ia ct sh) j ti 400) (lMsk (lGo ia ct sh) j sh 0) pr wt wh (nI j)) (cwV 1 hts gX4_takeOut_X2_mustGoOut rfl rfl rfl hd_X2_mustGoOut ⟨Nat.le_of_ble_eq_true rfl, Nat.le_of_ble_eq_true rfl⟩) hE hS hA hP [2, 3, 4, 5, 6, 7, 8, 9, 10] rfl rfl rfl rfl rfl hl.1 rfl (Nat.le_of_ble_eq_true rfl) dX4_takeOut_26 ⟨(Nat.le_of_ble_eq_true rfl), (Nat.le_of_ble_eq_true rfl)⟩ ?_
          refine lv_if_eq (tgt := 49) hx hb dX4_takeOut_29 (by decide) (fun c_5 => ?_) (fun c_5 => ?_)
          · refine lv_iinc (v := nI (j + 1)) (lv' := [(2, .int (nI (j + 1))), (1, .int x), (0, .ref h)]) hx hb dX4_takeOut_49 hl (k := 0) rfl (nI_1 j) (by decide) rfl (fun ls hl => ?_)
            refine lv_goto (tgt := 4) hx hb dX4_takeOut_52 (by decide) ?_
            have ho : lGo ia ct sh j = false := lGo_f2 (by rw [← fOut_msk _ _ _ 0 0 hjl]; exact c_5)
            simp only [lMsk_f ho] at hP hD
            exact ih (j + 1) x (by omega) (by omega) (by omega) (by rw [lAny_f ho]; exact hxj) _ _ hP hD hS ls (lv_sub hl [0, 1, 2] rfl)
          · refine lv_aload_n hx hb dX4_takeOut_32 rfl (lv_at hl 2 rfl) ?_
            refine va_get (D := D) (ci := 4) (v := .ref a1) (C := RX4) (T := TX4) (N := 2) hx hb hts in_X4_takeOut_X4 hown hK hP 0 rfl rfl 0 (by decide) (hts (.fieldLink RX4 9 "TypingCoach$LettersIn" "in" "[Z") (List.mem_of_getElem? (i := 1) rfl)) (fun _ h9 => h9) rfl dX4_takeOut_33 ?_
            refine lv_iload_n hx hb dX4_takeOut_36 rfl (lv_at hl 0 rfl) ?_
            refine lv_iconst (v := 0) hx hb dX4_takeOut_37 (by decide) ?_
            refine va_zast hx hb hK hP hD hS 1 1 rfl rfl (vp_in_nI hjl (Nat.le_of_ble_eq_true rfl)) dX4_takeOut_38 (fun H locs hP hD hS => ?_)
            have hP : va_P D vwCl [(h, .inr (4, [.ref a1, .ref g])), (a1, .inl (z 1, 26, .inl (upd (lMsk (lGo ia ct sh) j ia 0) (nI j).toNatClampNeg (vp_nar .boolean 0)))), (g, .inr (2, [.ref c1, .ref c2, .ref c3, .ref c4, .int wt, .int wh])), (c1, .inr (1, [.ref v1])), (v1, .inl (z 0, 26, .inl (lMsk (lGo ia ct sh) j ct 0))), (c2, .inr (1, [.ref v2])), (v2, .inl (z 0, 26, .inl (lMsk (lGo ia ct sh) j ti 400))), (c3, .inr (1, [.ref v3])), (v3, .inl (z 0, 26, .inl (lMsk (lGo ia ct sh) j sh 0))), (c4, .inr (1, [.ref v4])), (v4, .inl (z 0, 676, .inl pr))] H := hP
            have hD : va_D A [(h, .inr (4, [.ref a1, .ref g])), (a1, .inl (z 1, 26, .inl (upd (lMsk (lGo ia ct sh) j ia 0) (nI j).toNatClampNeg (vp_nar .boolean 0)))), (g, .inr (2, [.ref c1, .ref c2, .ref c3, .ref c4, .int wt, .int wh])), (c1, .inr (1, [.ref v1])), (v1, .inl (z 0, 26, .inl (lMsk (lGo ia ct sh) j ct 0))), (c2, .inr (1, [.ref v2])), (v2, .inl (z 0, 26, .inl (lMsk (lGo ia ct sh) j ti 400))), (c3, .inr (1, [.ref v3])), (v3, .inl (z 0, 26, .inl (lMsk (lGo ia ct sh) j sh 0))), (c4, .inr (1, [.ref v4])), (v4, .inl (z 0, 676, .inl pr))] := hD
            refine lv_aload_n hx hb dX4_takeOut_39 rfl (lv_at hl 2 rfl) ?_
            refine va_get (D := D) (ci := 4) (v := .ref g) (C := RX4) (T := TX4) (N := 2) hx hb hts in_X4_takeOut_X4 hown hK hP 0 rfl rfl 1 (by decide) (hts (.fieldLink RX4 15 "TypingCoach$LettersIn" "figures" "LTypingCoach$Figures;") (List.mem_of_getElem? (i := 2) rfl)) (fun _ h9 => h9) rfl dX4_takeOut_40 ?_
            refine lv_iload_n hx hb dX4_takeOut_43 rfl (lv_at hl 0 rfl) ?_
            refine wrVv (As := [.int (nI j)]) (rest := []) ⟨hx, hb, hml, hown, hts⟩ (c_X2_forget l D z q g c1 v1 c2 v2 c3 v3 c4 v4 (lMsk (lGo ia ct sh) j ct 0) (lMsk (lGo ia ct sh) j ti 400) (lMsk (lGo ia ct sh) j sh 0) pr wt wh (nI j) H.size) (cwV 1 hts gX4_takeOut_X2_forget rfl rfl rfl hd_X2_forget ⟨Nat.le_of_ble_eq_true rfl, Nat.le_of_ble_eq_true rfl⟩) hE hS hA hP hD [2, 3, 4, 5, 6, 7, 8, 9, 10] rfl rfl rfl rfl rfl rfl rfl hl.1 rfl (Nat.le_of_ble_eq_true rfl) dX4_takeOut_44 ⟨(Nat.le_of_ble_eq_true rfl), (Nat.le_of_ble_eq_true rfl)⟩ (fun H locs hP hD hS => ?_)
            have hP : va_P D vwCl [(h, .inr (4, [.ref a1, .ref g])), (a1, .inl (z 1, 26, .inl (upd (lMsk (lGo ia ct sh) j ia 0) (nI j).toNatClampNeg (vp_nar .boolean 0)))), (g, .inr (2, [.ref c1, .ref c2, .ref c3, .ref c4, .int wt, .int wh])), (c1, .inr (1, [.ref v1])), (v1, .inl (z 0, 26, .inl (cSet 26 (lMsk (lGo ia ct sh) j ct 0) (nI j) 0))), (c2, .inr (1, [.ref v2])), (v2, .inl (z 0, 26, .inl (cSet 26 (lMsk (lGo ia ct sh) j ti 400) (nI j) 400))), (c3, .inr (1, [.ref v3])), (v3, .inl (z 0, 26, .inl (cSet 26 (lMsk (lGo ia ct sh) j sh 0) (nI j) 0))), (c4, .inr (1, [.ref v4])), (v4, .inl (z 0, 676, .inl pr))] H := hP
            have hD : va_D A [(h, .inr (4, [.ref a1, .ref g])), (a1, .inl (z 1, 26, .inl (upd (lMsk (lGo ia ct sh) j ia 0) (nI j).toNatClampNeg (vp_nar .boolean 0)))), (g, .inr (2, [.ref c1, .ref c2, .ref c3, .ref c4, .int wt, .int wh])), (c1, .inr (1, [.ref v1])), (v1, .inl (z 0, 26, .inl (cSet 26 (lMsk (lGo ia ct sh) j ct 0) (nI j) 0))), (c2, .inr (1, [.ref v2])), (v2, .inl (z 0, 26, .inl (cSet 26 (lMsk (lGo ia ct sh) j ti 400) (nI j) 400))), (c3, .inr (1, [.ref v3])), (v3, .inl (z 0, 26, .inl (cSet 26 (lMsk (lGo ia ct sh) j sh 0) (nI j) 0))), (c4, .inr (1, [.ref v4])), (v4, .inl (z 0, 676, .inl pr))] := hD
            refine lv_iconst (v := 1) hx hb dX4_takeOut_47 (by decide) ?_
            refine lv_istore_n (lv' := [(1, .int 1), (2, .int (nI j)), (0, .ref h)]) hx hb dX4_takeOut_48 rfl hl (by decide) rfl (fun ls hl => ?_)
            refine lv_iinc (v := nI (j + 1)) (lv' := [(2, .int (nI (j + 1))), (1, .int 1), (0, .ref h)]) hx hb dX4_takeOut_49 hl (k := 1) rfl (nI_1 j) (by decide) rfl (fun ls hl => ?_)
            refine lv_goto (tgt := 4) hx hb dX4_takeOut_52 (by decide) ?_
            have ho : lGo ia ct sh j = true := lGo_t (by rw [← lIn_msk _ _ 0 hjl]; exact c_3) (by rw [← fOut_msk _ _ _ 0 0 hjl]; exact c_5)
            simp only [cSet_nI _ _ hjl (Nat.le_of_ble_eq_true rfl : 26 < 2 ^ 31), nI_clamp (i26 hjl), nz0, lMsk_t ho h4] at hP hD
            exact ih (j + 1) 1 (by omega) (by omega) (by omega) (lAny_t ho h4 |>.symm) _ _ hP hD hS ls (lv_sub hl [0, 1, 2] rfl)
  exact loop_1 23 4 0 (by omega) (by omega) (by omega) (lAny_4 _).symm _ _ (by simp only [lMsk_4]; exact hP) (by simp only [lMsk_4]; exact hD) hS ls (lv_sub hl [0, 1, 2] rfl)
set_option maxRecDepth 20000 in
theorem in_X4_areAllGood_X4 : ∀ w ∈ wsX40, w ∈ wsX4_areAllGood := mem_r _ [24, 25] (by decide +kernel)
theorem hd_X4_areAllGood : yX4_areAllGood.cls = RX4 ∧ yX4_areAllGood.cls ≠ "java/lang/invoke/MethodHandle" ∧ yX4_areAllGood.cls ≠ "java/lang/invoke/VarHandle" ∧ (parseMethodDescriptor yX4_areAllGood.desc).map (fun d => d.parameters.length) = some 0 := by decide +kernel
set_option maxHeartbeats 4000000 in
set_option maxRecDepth 100000 in
theorem c_X4_areAllGood (l : Launch) (D : va_G) (z : Nat → ClassId) (q : Nat → Nat) (h : Nat) (a1 : Nat) (g : Nat) (ia : Nat → Int32) (c1 : Nat) (v1 : Nat) (c2 : Nat) (v2 : Nat) (c3 : Nat) (v3 : Nat) (c4 : Nat) (v4 : Nat) (ct : Nat → Int32) (ti : Nat → Int32) (sh : Nat → Int32) (pr : Nat → Int32) (wt : Int32) (wh : Int32)  : RD l yX4_areAllGood wsX4_areAllGood ({ frames := 2, cells := 0, slots := 0, locals := 42 } : Room) D z q [.ref h] [(h, .inr (4, [.ref a1, .ref g])), (a1, .inl (z 1, 26, .inl ia)), (g, .inr (2, [.ref c1, .ref c2, .ref c3, .ref c4, .int wt, .int wh])), (c1, .inr (1, [.ref v1])), (v1, .inl (z 0, 26, .inl ct)), (c2, .inr (1, [.ref v2])), (v2, .inl (z 0, 26, .inl ti)), (c3, .inr (1, [.ref v3])), (v3, .inl (z 0, 26, .inl sh)), (c4, .inr (1, [.ref v4])), (v4, .inl (z 0, 676, .inl pr))] (some (.int (lAgI ia ct ti sh wt wh))) := by
  refine RD_mk (cc := cX4_areAllGood) (maxL := 2) (ret := (some .boolean)) (by decide) rfl (Nat.le_of_ble_eq_true rfl) ?_
  intro p e s m below meth c hx hb hr hml hts hown hlocks hP hE hS hA ls hl
  have hK := hE.1
  have hown : s.vm.findClass RX4 = some m.cls := hown
  have hl : lv_has ls 2 [(0, .ref h)] := hl
  refine lv_iconst (v := 0) hx hb dX4_areAllGood_0 (by decide) ?_
  refine lv_istore_n (lv' := [(1, .int 0), (0, .ref h)]) hx hb dX4_areAllGood_1 rfl hl (by decide) rfl (fun ls hl => ?_)
  have loop_1 : ∀ (n : Nat) (j : Nat), j ≤ 26 → 26 < j + n → (∀ k, k < j → lIn ia (nI k) = 0 ∨ ¬ fGood ct ti sh wt wh (nI k) = 0) → ∀ ls : Array Slot, lv_has ls 2 [(1, .int (nI j)), (0, .ref h)] → W p l e ({ frames := 2, cells := 0, slots := 0, locals := 42 } : Room) s m ([.ref h] : List Value).toArray below meth c s.heap [] 0 0 (MQ below (QR (some (.int (lAgI ia ct ti sh wt wh)))) ([.ref h] : List Value).toArray s 0 0 (fun _ => False)) (F0 m 2 ls []) := by
    intro n
    induction n with
    | zero => intro j hj hf hall; exact absurd hf (by omega)
    | succ n ih =>
      intro j hj hf hall ls hl
      refine lv_iload_n hx hb dX4_areAllGood_2 rfl (lv_at hl 0 rfl) ?_
      refine lv_bipush (v := 26) hx hb dX4_areAllGood_3 (by decide) ?_
      refine lv_icmp_ge (tgt := 35) hx hb dX4_areAllGood_5 (by decide) (fun c_2 => ?_) (fun c_2 => ?_)
      · have hj2 : j = 26 := lpx c_2 hj (Nat.le_of_ble_eq_true rfl) rfl
        refine lv_iconst (v := 1) hx hb dX4_areAllGood_35 (by decide) ?_
        exact rd_z hx hb hr hlocks dX4_areAllGood_36 (by decide) (by rw [lAgI, if_pos (fun k hk => hall k (by omega))])
      · have hjl : j < 26 := lpn c_2 hj (Nat.le_of_ble_eq_true rfl) rfl
        refine lv_aload_n hx hb dX4_areAllGood_8 rfl (lv_at hl 1 rfl) ?_
        refine lv_iload_n hx hb dX4_areAllGood_9 rfl (lv_at hl 0 rfl) ?_
        refine rdV (As := [.int (nI j)]) (rest := []) ⟨hx, hb, hml, hown, hts⟩ (c_X4_contains l D z q h a1 g ia (nI j)) (cwV 1 hts gX4_areAllGood_X4_contains rfl rfl rfl hd_X4_contains ⟨Nat.le_of_ble_eq_true rfl, Nat.le_of_ble_eq_true rfl⟩) hE hS hA hP [0, 1] rfl rfl rfl rfl rfl hl.1 rfl (Nat.le_of_ble_eq_true rfl) dX4_areAllGood_10 ⟨(Nat.le_of_ble_eq_true rfl), (Nat.le_of_ble_eq_true rfl)⟩ ?_
        refine lv_if_eq (tgt := 29) hx hb dX4_areAllGood_13 (by decide) (fun c_3 => ?_) (fun c_3 => ?_)
        · refine lv_iinc (v := nI (j + 1)) (lv' := [(1, .int (nI (j + 1))), (0, .ref h)]) hx hb dX4_areAllGood_29 hl (k := 0) rfl (nI_1 j) (by decide) rfl (fun ls hl => ?_)
          refine lv_goto (tgt := 2) hx hb dX4_areAllGood_32 (by decide) ?_
          exact ih (j + 1) (by omega) (by omega) (lt_s hall (Or.inl c_3)) ls (lv_sub hl [0, 1] rfl)
        · refine lv_aload_n hx hb dX4_areAllGood_16 rfl (lv_at hl 1 rfl) ?_
          refine va_get (D := D) (ci := 4) (v := .ref g) (C := RX4) (T := TX4) (N := 2) hx hb hts in_X4_areAllGood_X4 hown hK hP 0 rfl rfl 1 (by decide) (hts (.fieldLink RX4 15 "TypingCoach$LettersIn" "figures" "LTypingCoach$Figures;") (List.mem_of_getElem? (i := 1) rfl)) (fun _ h9 => h9) rfl dX4_areAllGood_17 ?_
          refine lv_iload_n hx hb dX4_areAllGood_20 rfl (lv_at hl 0 rfl) ?_
          refine rdV (As := [.int (nI j)]) (rest := []) ⟨hx, hb, hml, hown, hts⟩ (c_X2_fulfilsWish l D z q g c1 v1 c2 v2 c3 v3 c4 v4 ct ti sh pr wt wh (nI j)) (cwV 1 hts gX4_areAllGood_X2_fulfilsWish rfl rfl rfl hd_X2_fulfilsWish ⟨Nat.le_of_ble_eq_true rfl, Nat.le_of_ble_eq_true rfl⟩) hE hS hA hP [2, 3, 4, 5, 6, 7, 8, 9, 10] rfl rfl rfl rfl rfl hl.1 rfl (Nat.le_of_ble_eq_true rfl) dX4_areAllGood_21 ⟨(Nat.le_of_ble_eq_true rfl), (Nat.le_of_ble_eq_true rfl)⟩ ?_
          refine lv_if_ne (tgt := 29) hx hb dX4_areAllGood_24 (by decide) (fun c_5 => ?_) (fun c_5 => ?_)
          · refine lv_iinc (v := nI (j + 1)) (lv' := [(1, .int (nI (j + 1))), (0, .ref h)]) hx hb dX4_areAllGood_29 hl (k := 0) rfl (nI_1 j) (by decide) rfl (fun ls hl => ?_)
            refine lv_goto (tgt := 2) hx hb dX4_areAllGood_32 (by decide) ?_
            exact ih (j + 1) (by omega) (by omega) (lt_s hall (Or.inr c_5)) ls (lv_sub hl [0, 1] rfl)
          · refine lv_iconst (v := 0) hx hb dX4_areAllGood_27 (by decide) ?_
            exact rd_z hx hb hr hlocks dX4_areAllGood_28 (by decide) (by rw [lAgI, if_neg (fun h9 => (h9 j hjl).elim c_3 (fun h2 => h2 c_5))])
  exact loop_1 27 0 (by omega) (by omega) (fun k hk => absurd hk (Nat.not_lt_zero k)) ls (lv_sub hl [0, 1] rfl)
set_option maxRecDepth 20000 in
theorem in_X4_letIn_X4 : ∀ w ∈ wsX40, w ∈ wsX4_letIn := mem_r _ [7, 8] (by decide +kernel)
theorem hd_X4_letIn : yX4_letIn.cls = RX4 ∧ yX4_letIn.cls ≠ "java/lang/invoke/MethodHandle" ∧ yX4_letIn.cls ≠ "java/lang/invoke/VarHandle" ∧ (parseMethodDescriptor yX4_letIn.desc).map (fun d => d.parameters.length) = some 0 := by decide +kernel
set_option maxHeartbeats 4000000 in
set_option maxRecDepth 100000 in
theorem c_X4_letIn (l : Launch) (D : va_G) (z : Nat → ClassId) (q : Nat → Nat) (h : Nat) (a1 : Nat) (g : Nat) (ia : Nat → Int32) (sz : Nat)  : WR l yX4_letIn wsX4_letIn ({ frames := 1, cells := 0, slots := 0, locals := 21 } : Room) D z q [.ref h] [(h, .inr (4, [.ref a1, .ref g])), (a1, .inl (z 1, 26, .inl ia))] sz [(h, .inr (4, [.ref a1, .ref g])), (a1, .inl (z 1, 26, .inl (lLetI ia)))] (some (.int (lLetV ia))) := by
  refine WR_mk (Qc := fun A => QW D [(h, .inr (4, [.ref a1, .ref g])), (a1, .inl (z 1, 26, .inl (lLetI ia)))] A (some (.int (lLetV ia)))) (cc := cX4_letIn) (maxL := 2) (ret := (some .int)) (by decide) rfl (Nat.le_of_ble_eq_true rfl) ?_
  intro p e s m below meth c A hx hb hr hml hts hown hlocks hin0 H hP hD hE hS hA ls hl
  have hK := hE.1
  have hown : s.vm.findClass RX4 = some m.cls := hown
  have hl : lv_has ls 2 [(0, .ref h)] := hl
  refine lv_iconst (v := 0) hx hb dX4_letIn_0 (by decide) ?_
  refine lv_istore_n (lv' := [(1, .int 0), (0, .ref h)]) hx hb dX4_letIn_1 rfl hl (by decide) rfl (fun ls hl => ?_)
  have loop_1 : ∀ (n : Nat) (j : Nat), j ≤ 26 → 26 < j + n → lNew ia = lFst (fun k => decide (lIn ia (nI k) = 0)) (26 - j) j → ∀ (H : Heap) (locs : List Loc), va_P D vwCl [(h, .inr (4, [.ref a1, .ref g])), (a1, .inl (z 1, 26, .inl ia))] H → va_D A [(h, .inr (4, [.ref a1, .ref g])), (a1, .inl (z 1, 26, .inl ia))] → va_S A s.heap H locs → ∀ ls : Array Slot, lv_has ls 2 [(1, .int (nI j)), (0, .ref h)] → W p l e ({ frames := 1, cells := 0, slots := 0, locals := 21 } : Room) s m ([.ref h] : List Value).toArray below meth c H locs 0 0 (MQ below (QW D [(h, .inr (4, [.ref a1, .ref g])), (a1, .inl (z 1, 26, .inl (lLetI ia)))] A (some (.int (lLetV ia)))) ([.ref h] : List Value).toArray s 0 0 A) (F0 m 2 ls []) := by
    intro n
    induction n with
    | zero => intro j hj hf hff; exact absurd hf (by omega)
    | succ n ih =>
      intro j hj hf hff H locs hP hD hS ls hl
      refine lv_iload_n hx hb dX4_letIn_2 rfl (lv_at hl 0 rfl) ?_
      refine lv_aload_n hx hb dX4_letIn_3 rfl (lv_at hl 1 rfl) ?_
      refine va_get (D := D) (ci := 4) (v := .ref a1) (C := RX4) (T := TX4) (N := 2) hx hb hts in_X4_letIn_X4 hown hK hP 0 rfl rfl 0 (by decide) (hts (.fieldLink RX4 9 "TypingCoach$LettersIn" "in" "[Z") (List.mem_of_getElem? (i := 1) rfl)) (fun _ h9 => h9) rfl dX4_letIn_4 ?_
      refine va_alen (v := 26) hx hb hK hP 1 1 rfl rfl rfl dX4_letIn_7 ?_
      refine lv_icmp_ge (tgt := 34) hx hb dX4_letIn_8 (by decide) (fun c_2 => ?_) (fun c_2 => ?_)
      · have hj2 : j = 26 := lpx c_2 hj (Nat.le_of_ble_eq_true rfl) rfl
        have hnew : lNew ia = 26 := by rw [hff, hj2]; rfl
        refine lv_iconst (v := (-1)) hx hb dX4_letIn_34 (by decide) ?_
        exact wr_i hx hb hr hlocks hP hD hS dX4_letIn_35 (by rw [lLetI, hnew]; rfl) (by rw [lLetV, hnew]; rfl) (Nat.le_refl _) (Nat.le_refl _)
      · have hjl : j < 26 := lpn c_2 hj (Nat.le_of_ble_eq_true rfl) rfl
        refine lv_aload_n hx hb dX4_letIn_11 rfl (lv_at hl 1 rfl) ?_
        refine lv_iload_n hx hb dX4_letIn_12 rfl (lv_at hl 0 rfl) ?_
        refine rdV (As := [.int (nI j)]) (rest := []) ⟨hx, hb, hml, hown, hts⟩ (c_X4_contains l D z q h a1 g ia (nI j)) (cwV 1 hts gX4_letIn_X4_contains rfl rfl rfl hd_X4_contains ⟨Nat.le_of_ble_eq_true rfl, Nat.le_of_ble_eq_true rfl⟩) hE hS hA hP [0, 1] rfl rfl rfl rfl rfl hl.1 rfl (Nat.le_of_ble_eq_true rfl) dX4_letIn_13 ⟨(Nat.le_of_ble_eq_true rfl), (Nat.le_of_ble_eq_true rfl)⟩ ?_
        refine lv_if_ne (tgt := 28) hx hb dX4_letIn_16 (by decide) (fun c_3 => ?_) (fun c_3 => ?_)
        · refine lv_iinc (v := nI (j + 1)) (lv' := [(1, .int (nI (j + 1))), (0, .ref h)]) hx hb dX4_letIn_28 hl (k := 0) rfl (nI_1 j) (by decide) rfl (fun ls hl => ?_)
          refine lv_goto (tgt := 2) hx hb dX4_letIn_31 (by decide) ?_
          exact ih (j + 1) (by omega) (by omega) (hff.trans (lFst_f (o := (fun k => decide (lIn ia (nI k) = 0))) (decide_eq_false c_3) hjl)) _ _ hP hD hS ls (lv_sub hl [0, 1] rfl)
        · have hnew : lNew ia = j := hff.trans (lFst_t (o := (fun k => decide (lIn ia (nI k) = 0))) (decide_eq_true c_3) hjl)
          refine lv_aload_n hx hb dX4_letIn_19 rfl (lv_at hl 1 rfl) ?_
          refine va_get (D := D) (ci := 4) (v := .ref a1) (C := RX4) (T := TX4) (N := 2) hx hb hts in_X4_letIn_X4 hown hK hP 0 rfl rfl 0 (by decide) (hts (.fieldLink RX4 9 "TypingCoach$LettersIn" "in" "[Z") (List.mem_of_getElem? (i := 1) rfl)) (fun _ h9 => h9) rfl dX4_letIn_20 ?_
          refine lv_iload_n hx hb dX4_letIn_23 rfl (lv_at hl 0 rfl) ?_
          refine lv_iconst (v := 1) hx hb dX4_letIn_24 (by decide) ?_
          refine va_zast hx hb hK hP hD hS 1 1 rfl rfl (vp_in_nI hjl (Nat.le_of_ble_eq_true rfl)) dX4_letIn_25 (fun H locs hP hD hS => ?_)
          have hP : va_P D vwCl [(h, .inr (4, [.ref a1, .ref g])), (a1, .inl (z 1, 26, .inl (upd ia (nI j).toNatClampNeg (vp_nar .boolean 1))))] H := hP
          have hD : va_D A [(h, .inr (4, [.ref a1, .ref g])), (a1, .inl (z 1, 26, .inl (upd ia (nI j).toNatClampNeg (vp_nar .boolean 1))))] := hD
          refine lv_iload_n hx hb dX4_letIn_26 rfl (lv_at hl 0 rfl) ?_
          exact wr_i hx hb hr hlocks hP hD hS dX4_letIn_27 (by rw [lLetI, hnew, if_pos hjl, nI_clamp (i26 hjl), nz1]) (by rw [lLetV, hnew, if_pos hjl]) (Nat.le_refl _) (Nat.le_refl _)
  exact loop_1 27 0 (by omega) (by omega) rfl _ _ hP hD hS ls (lv_sub hl [0, 1] rfl)
theorem hd_X4_review : yX4_review.cls = RX4 ∧ yX4_review.cls ≠ "java/lang/invoke/MethodHandle" ∧ yX4_review.cls ≠ "java/lang/invoke/VarHandle" ∧ (parseMethodDescriptor yX4_review.desc).map (fun d => d.parameters.length) = some 0 := by decide +kernel
set_option maxHeartbeats 4000000 in
set_option maxRecDepth 100000 in
theorem c_X4_review (l : Launch) (D : va_G) (z : Nat → ClassId) (q : Nat → Nat) (h : Nat) (a1 : Nat) (g : Nat) (ia : Nat → Int32) (c1 : Nat) (v1 : Nat) (c2 : Nat) (v2 : Nat) (c3 : Nat) (v3 : Nat) (c4 : Nat) (v4 : Nat) (ct : Nat → Int32) (ti : Nat → Int32) (sh : Nat → Int32) (pr : Nat → Int32) (wt : Int32) (wh : Int32) (sz : Nat)  : WR l yX4_review wsX4_review ({ frames := 3, cells := 0, slots := 0, locals := 65 } : Room) D z q [.ref h] [(h, .inr (4, [.ref a1, .ref g])), (a1, .inl (z 1, 26, .inl ia)), (g, .inr (2, [.ref c1, .ref c2, .ref c3, .ref c4, .int wt, .int wh])), (c1, .inr (1, [.ref v1])), (v1, .inl (z 0, 26, .inl ct)), (c2, .inr (1, [.ref v2])), (v2, .inl (z 0, 26, .inl ti)), (c3, .inr (1, [.ref v3])), (v3, .inl (z 0, 26, .inl sh)), (c4, .inr (1, [.ref v4])), (v4, .inl (z 0, 676, .inl pr))] sz [(h, .inr (4, [.ref a1, .ref g])), (a1, .inl (z 1, 26, .inl (lRevI ia ct ti sh wt wh))), (g, .inr (2, [.ref c1, .ref c2, .ref c3, .ref c4, .int wt, .int wh])), (c1, .inr (1, [.ref v1])), (v1, .inl (z 0, 26, .inl (lM1 ia ct sh ct 0))), (c2, .inr (1, [.ref v2])), (v2, .inl (z 0, 26, .inl (lM1 ia ct sh ti 400))), (c3, .inr (1, [.ref v3])), (v3, .inl (z 0, 26, .inl (lM1 ia ct sh sh 0))), (c4, .inr (1, [.ref v4])), (v4, .inl (z 0, 676, .inl pr))] (some (.int (lRevV ia ct ti sh wt wh))) := by
  refine WR_mk (Qc := fun A => QW D [(h, .inr (4, [.ref a1, .ref g])), (a1, .inl (z 1, 26, .inl (lRevI ia ct ti sh wt wh))), (g, .inr (2, [.ref c1, .ref c2, .ref c3, .ref c4, .int wt, .int wh])), (c1, .inr (1, [.ref v1])), (v1, .inl (z 0, 26, .inl (lM1 ia ct sh ct 0))), (c2, .inr (1, [.ref v2])), (v2, .inl (z 0, 26, .inl (lM1 ia ct sh ti 400))), (c3, .inr (1, [.ref v3])), (v3, .inl (z 0, 26, .inl (lM1 ia ct sh sh 0))), (c4, .inr (1, [.ref v4])), (v4, .inl (z 0, 676, .inl pr))] A (some (.int (lRevV ia ct ti sh wt wh)))) (cc := cX4_review) (maxL := 1) (ret := (some .int)) (by decide) rfl (Nat.le_of_ble_eq_true rfl) ?_
  intro p e s m below meth c A hx hb hr hml hts hown hlocks hin0 H hP hD hE hS hA ls hl
  have hK := hE.1
  have hown : s.vm.findClass RX4 = some m.cls := hown
  have hl : lv_has ls 1 [(0, .ref h)] := hl
  refine lv_aload_n hx hb dX4_review_0 rfl (lv_at hl 0 rfl) ?_
  refine wrVi (As := []) (rest := []) ⟨hx, hb, hml, hown, hts⟩ (c_X4_takeOut l D z q h a1 g ia c1 v1 c2 v2 c3 v3 c4 v4 ct ti sh pr wt wh H.size) (cwV 0 hts gX4_review_X4_takeOut rfl rfl rfl hd_X4_takeOut ⟨Nat.le_of_ble_eq_true rfl, Nat.le_of_ble_eq_true rfl⟩) hE hS hA hP hD [0, 1, 2, 3, 4, 5, 6, 7, 8, 9, 10] rfl rfl rfl rfl rfl rfl rfl hl.1 rfl (Nat.le_of_ble_eq_true rfl) dX4_review_1 ⟨(Nat.le_of_ble_eq_true rfl), (Nat.le_of_ble_eq_true rfl)⟩ (fun H locs hP hD hS => ?_)
  have hP : va_P D vwCl [(h, .inr (4, [.ref a1, .ref g])), (a1, .inl (z 1, 26, .inl (lMsk (lGo ia ct sh) 26 ia 0))), (g, .inr (2, [.ref c1, .ref c2, .ref c3, .ref c4, .int wt, .int wh])), (c1, .inr (1, [.ref v1])), (v1, .inl (z 0, 26, .inl (lMsk (lGo ia ct sh) 26 ct 0))), (c2, .inr (1, [.ref v2])), (v2, .inl (z 0, 26, .inl (lMsk (lGo ia ct sh) 26 ti 400))), (c3, .inr (1, [.ref v3])), (v3, .inl (z 0, 26, .inl (lMsk (lGo ia ct sh) 26 sh 0))), (c4, .inr (1, [.ref v4])), (v4, .inl (z 0, 676, .inl pr))] H := hP
  have hD : va_D A [(h, .inr (4, [.ref a1, .ref g])), (a1, .inl (z 1, 26, .inl (lMsk (lGo ia ct sh) 26 ia 0))), (g, .inr (2, [.ref c1, .ref c2, .ref c3, .ref c4, .int wt, .int wh])), (c1, .inr (1, [.ref v1])), (v1, .inl (z 0, 26, .inl (lMsk (lGo ia ct sh) 26 ct 0))), (c2, .inr (1, [.ref v2])), (v2, .inl (z 0, 26, .inl (lMsk (lGo ia ct sh) 26 ti 400))), (c3, .inr (1, [.ref v3])), (v3, .inl (z 0, 26, .inl (lMsk (lGo ia ct sh) 26 sh 0))), (c4, .inr (1, [.ref v4])), (v4, .inl (z 0, 676, .inl pr))] := hD
  refine lv_if_ne (tgt := 14) hx hb dX4_review_4 (by decide) (fun c_1 => ?_) (fun c_1 => ?_)
  · refine lv_iconst (v := (-1)) hx hb dX4_review_14 (by decide) ?_
    refine lv_goto (tgt := 22) hx hb dX4_review_15 (by decide) ?_
    exact wr_i hx hb hr hlocks hP hD hS dX4_review_22 (by simp only [lRevI, lM1, if_neg c_1, ↓reduceIte]) (by simp only [lRevV, lM1, if_neg c_1, ↓reduceIte]) (Nat.le_refl _) (Nat.le_refl _)
  · refine lv_aload_n hx hb dX4_review_7 rfl (lv_at hl 0 rfl) ?_
    refine rdV (As := []) (rest := []) ⟨hx, hb, hml, hown, hts⟩ (c_X4_areAllGood l D z q h a1 g (lMsk (lGo ia ct sh) 26 ia 0) c1 v1 c2 v2 c3 v3 c4 v4 (lMsk (lGo ia ct sh) 26 ct 0) (lMsk (lGo ia ct sh) 26 ti 400) (lMsk (lGo ia ct sh) 26 sh 0) pr wt wh) (cwV 0 hts gX4_review_X4_areAllGood rfl rfl rfl hd_X4_areAllGood ⟨Nat.le_of_ble_eq_true rfl, Nat.le_of_ble_eq_true rfl⟩) hE hS hA hP [0, 1, 2, 3, 4, 5, 6, 7, 8, 9, 10] rfl rfl rfl rfl rfl hl.1 rfl (Nat.le_of_ble_eq_true rfl) dX4_review_8 ⟨(Nat.le_of_ble_eq_true rfl), (Nat.le_of_ble_eq_true rfl)⟩ ?_
    refine lv_if_ne (tgt := 18) hx hb dX4_review_11 (by decide) (fun c_2 => ?_) (fun c_2 => ?_)
    · refine lv_aload_n hx hb dX4_review_18 rfl (lv_at hl 0 rfl) ?_
      refine wrVi (As := []) (rest := []) ⟨hx, hb, hml, hown, hts⟩ (c_X4_letIn l D z q h a1 g (lMsk (lGo ia ct sh) 26 ia 0) H.size) (cwV 0 hts gX4_review_X4_letIn rfl rfl rfl hd_X4_letIn ⟨Nat.le_of_ble_eq_true rfl, Nat.le_of_ble_eq_true rfl⟩) hE hS hA hP hD [0, 1] rfl rfl rfl rfl rfl rfl rfl hl.1 rfl (Nat.le_of_ble_eq_true rfl) dX4_review_19 ⟨(Nat.le_of_ble_eq_true rfl), (Nat.le_of_ble_eq_true rfl)⟩ (fun H locs hP hD hS => ?_)
      have hP : va_P D vwCl [(h, .inr (4, [.ref a1, .ref g])), (a1, .inl (z 1, 26, .inl (lLetI (lMsk (lGo ia ct sh) 26 ia 0)))), (g, .inr (2, [.ref c1, .ref c2, .ref c3, .ref c4, .int wt, .int wh])), (c1, .inr (1, [.ref v1])), (v1, .inl (z 0, 26, .inl (lMsk (lGo ia ct sh) 26 ct 0))), (c2, .inr (1, [.ref v2])), (v2, .inl (z 0, 26, .inl (lMsk (lGo ia ct sh) 26 ti 400))), (c3, .inr (1, [.ref v3])), (v3, .inl (z 0, 26, .inl (lMsk (lGo ia ct sh) 26 sh 0))), (c4, .inr (1, [.ref v4])), (v4, .inl (z 0, 676, .inl pr))] H := hP
      have hD : va_D A [(h, .inr (4, [.ref a1, .ref g])), (a1, .inl (z 1, 26, .inl (lLetI (lMsk (lGo ia ct sh) 26 ia 0)))), (g, .inr (2, [.ref c1, .ref c2, .ref c3, .ref c4, .int wt, .int wh])), (c1, .inr (1, [.ref v1])), (v1, .inl (z 0, 26, .inl (lMsk (lGo ia ct sh) 26 ct 0))), (c2, .inr (1, [.ref v2])), (v2, .inl (z 0, 26, .inl (lMsk (lGo ia ct sh) 26 ti 400))), (c3, .inr (1, [.ref v3])), (v3, .inl (z 0, 26, .inl (lMsk (lGo ia ct sh) 26 sh 0))), (c4, .inr (1, [.ref v4])), (v4, .inl (z 0, 676, .inl pr))] := hD
      exact wr_i hx hb hr hlocks hP hD hS dX4_review_22 (by simp only [lRevI, lM1, if_pos c_1, if_neg c_2, ↓reduceIte]) (by simp only [lRevV, lM1, if_pos c_1, if_neg c_2, ↓reduceIte]) (Nat.le_refl _) (Nat.le_refl _)
    · refine lv_iconst (v := (-1)) hx hb dX4_review_14 (by decide) ?_
      refine lv_goto (tgt := 22) hx hb dX4_review_15 (by decide) ?_
      exact wr_i hx hb hr hlocks hP hD hS dX4_review_22 (by simp only [lRevI, lM1, if_pos c_1, if_pos c_2, ↓reduceIte]) (by simp only [lRevV, lM1, if_pos c_1, if_pos c_2, ↓reduceIte]) (Nat.le_refl _) (Nat.le_refl _)
end
section
/-! ===== constructors ===== -/
theorem mx0 {len : Int32} {n : Nat} (h : len = nI n) (hn : n ≤ 1000) : (if len < 0 then 0 else len) = nI n := by rw [h, if_neg (nI_pos (by omega))]
def bIdn (j : Nat) (f : Nat → Int32) : Nat → Int32 := fun k => if k < j then nI k else f k
theorem bIdn_0 (f : Nat → Int32) : bIdn 0 f = f := by funext k; simp [bIdn]
theorem bIdn_s {n j : Nat} (f : Nat → Int32) (hj : j < n) (hn : n < 2 ^ 31) : cSet n (bIdn j f) (nI j) (nI j) = bIdn (j + 1) f := by
  rw [cSet_nI _ _ hj hn]
  funext k
  by_cases h : k = j
  · subst h; rw [pk_us]; simp [bIdn]
  · rw [pk_un h]
    have e : (k < j + 1) ↔ (k < j) := by omega
    simp only [bIdn, e]
def lIni (j : Nat) : Nat → Int32 := fun k => if k < j then (if k < 4 then 1 else 0) else 0
theorem lIni_0 : lIni 0 = fun _ => 0 := by funext k; simp [lIni]
theorem lIni_u {j : Nat} {x : Int32} (hx : x = if j < 4 then 1 else 0) : upd (lIni j) j x = lIni (j + 1) := by
  funext k
  by_cases h : k = j
  · subst h; rw [pk_us]; simp [lIni, hx]
  · rw [pk_un h]
    have e : (k < j + 1) ↔ (k < j) := by omega
    simp only [lIni, e]
theorem lIni_t {j : Nat} (h : j < 4) : upd (lIni j) j 1 = lIni (j + 1) := lIni_u (by rw [if_pos h])
theorem lIni_f {j : Nat} (h : ¬ j < 4) : upd (lIni j) j 0 = lIni (j + 1) := lIni_u (by rw [if_neg h])
theorem lpn4 {j : Nat} (c : ¬ (4 : Int32) ≤ nI j) (hj : j < 26) : j < 4 := by
  have h : ¬ 4 ≤ j := fun h => c ((nI_leI (a := 4) (Nat.le_of_ble_eq_true rfl) (i26 hj)).mpr h)
  omega
theorem lpx4 {j : Nat} (c : (4 : Int32) ≤ nI j) (hj : j < 26) : ¬ j < 4 := by
  have h := (nI_leI (a := 4) (Nat.le_of_ble_eq_true rfl) (i26 hj)).mp c
  omega
set_option maxRecDepth 20000 in
theorem in_X1_init_X1 : ∀ w ∈ wsX10, w ∈ wsX1_init := mem_r _ [14] (by decide +kernel)
theorem hd_X1_init : yX1_init.cls ≠ "java/lang/invoke/MethodHandle" ∧ yX1_init.cls ≠ "java/lang/invoke/VarHandle" ∧ (parseMethodDescriptor yX1_init.desc).map (fun d => d.parameters.length) = some 2 := by decide +kernel
set_option maxHeartbeats 4000000 in
set_option maxRecDepth 100000 in
theorem c_X1_init (l : Launch) (D : va_G) (z : Nat → ClassId) (q : Nat → Nat) (h : Nat) (len : Int32) (x : Int32) (n : Nat) (sz : Nat) (hlen : len = nI n) (hn : n ≤ 1000) : Met l yX1_init wsX1_init ({ frames := 1, cells := 1, slots := n, locals := 40 } : Room) (va_Pc [.ref h, .int len, .int x] (WP D z q [(h, .inr (1, [.null]))] sz)) (QT D (va_A [(h, .inr (1, [.null]))] sz) (fun _ => none) (fun _ => True) (fun u : Nat → Nat => [(h, .inr (1, [.ref (u 0)])), ((u 0), .inl (z 0, n, .inl (fFill (fun _ => 0) x n)))])) 1 n (va_A [(h, .inr (1, [.null]))] sz) := by
  refine WR_mk (Qc := fun A => QT D A (fun _ => none) (fun _ => True) (fun u : Nat → Nat => [(h, .inr (1, [.ref (u 0)])), ((u 0), .inl (z 0, n, .inl (fFill (fun _ => 0) x n)))])) (mc := 1) (ms := n) (cc := cX1_init) (maxL := 3) (ret := none) (by decide) rfl (Nat.le_of_ble_eq_true rfl) ?_
  intro p e s m below meth c A hx hb hr hml hts hown hlocks hin0 H hP hD hE hS hA ls hl
  have hK := hE.1
  have hown : s.vm.findClass RX1 = some m.cls := hown
  have hin : meth.name = "<init>" := hin0 rfl
  have hl : lv_has ls 3 [(0, .ref h), (1, .int len), (2, .int x)] := hl
  refine lv_aload_n hx hb dX1_init_0 rfl (lv_at hl 0 rfl) ?_
  refine W.objInit hx hb hown (hts (.methodLink RX1 3 objectInit) (List.mem_of_getElem? (i := 1) rfl)) (hts (.instanceMethod objectInit) (List.mem_of_getElem? (i := 2) rfl)) (hts (.code objectInit ⟨#[0xb1]⟩ 1 none) (List.mem_of_getElem? (i := 3) rfl)) rfl (by rw [hml]; exact hl.1) rfl dX1_init_1 (Nat.le_of_ble_eq_true rfl) (Nat.le_of_ble_eq_true rfl) ?_
  refine W.eq (g2 := F0 m 4 ls []) rfl ?_
  refine lv_aload_n hx hb dX1_init_4 rfl (lv_at hl 0 rfl) ?_
  refine lv_iload_n hx hb dX1_init_5 rfl (lv_at hl 1 rfl) ?_
  refine lv_iconst (v := 0) hx hb dX1_init_6 (by decide) ?_
  refine va_mmax hx hb (by rw [hml]; exact hl.1.symm) hown (hts (.methodLink RX1 9 Lib.Math.max.name) (List.mem_of_getElem? (i := 4) rfl)) (hts (.static Lib.Math.max.name) (List.mem_of_getElem? (i := 5) rfl)) (hts (.initialized "java/lang/Math") (List.mem_of_getElem? (i := 6) rfl)) (hts (.code Lib.Math.max.name Lib.Math.max.code 2 (some .int)) (List.mem_of_getElem? (i := 7) rfl)) (Nat.le_of_ble_eq_true rfl) (Nat.le_of_ble_eq_true rfl) (Nat.zero_le _) (Nat.zero_le _) dX1_init_7 ?_
  refine newI (N' := n) hx hb (hts (.arrayClass .int) (List.mem_of_getElem? (i := 8) rfl)) hK hP hD hS hA (by rw [mx0 hlen hn]; exact nI_pos (by omega)) (by rw [mx0 hlen hn]; exact nI_clamp (by omega)) (by omega) (Nat.le_of_ble_eq_true rfl) (Nat.le_of_eq (Nat.zero_add _)) dX1_init_10 (fun a_1 H hP hD hS => ?_)
  have hP : va_P D vwCl [(h, .inr (1, [.null])), (a_1, .inl (z 0, n, .inl (fun _ => 0)))] H := hP
  have hD : va_D A [(h, .inr (1, [.null])), (a_1, .inl (z 0, n, .inl (fun _ => 0)))] := hD
  refine W.widen (k := 1) (n := n) (Nat.le_refl _) (Nat.le_of_eq (Nat.zero_add _)) ?_
  refine va_putF (D := D) (ci := 1) (v := .ref a_1) (ty := .array .int) (C := RX1) (T := TX1) (N := 1) hx hb hts in_X1_init_X1 tyX1 tyX1_ok nmX1 hown hK hP hD hS 0 rfl rfl 0 (by decide) (hts (.fieldLink RX1 15 "TypingCoach$Cells" "values" "[I") (List.mem_of_getElem? (i := 9) rfl)) (fun _ h9 => h9) rfl hin rfl (by decide +kernel) rfl rfl (Nat.le_of_ble_eq_true rfl) dX1_init_12 (fun H locs hP hD hS => ?_)
  have hP : va_P D vwCl [(h, .inr (1, [.ref a_1])), (a_1, .inl (z 0, n, .inl (fun _ => 0)))] H := hP
  have hD : va_D A [(h, .inr (1, [.ref a_1])), (a_1, .inl (z 0, n, .inl (fun _ => 0)))] := hD
  refine lv_aload_n hx hb dX1_init_15 rfl (lv_at hl 0 rfl) ?_
  refine va_get (D := D) (ci := 1) (v := .ref a_1) (C := RX1) (T := TX1) (N := 1) hx hb hts in_X1_init_X1 hown hK hP 0 rfl rfl 0 (by decide) (hts (.fieldLink RX1 15 "TypingCoach$Cells" "values" "[I") (List.mem_of_getElem? (i := 9) rfl)) (fun _ h9 => h9) rfl dX1_init_16 ?_
  refine lv_iload_n hx hb dX1_init_19 rfl (lv_at hl 2 rfl) ?_
  refine wrSv (As := [.ref a_1, .int x]) (rest := []) ⟨hx, hb, hml, hown, hts⟩ (c_J7_fill_53178 l D z q a_1 n (fun _ => 0) x H.size (by omega)) (va_cwS 2 hts gX1_init_J7_fill_53178 rfl rfl rfl hd_J7_fill_53178 ⟨Nat.le_of_ble_eq_true rfl, Nat.le_of_ble_eq_true rfl⟩) hE hS hA hP hD [1] rfl rfl rfl rfl hl.1 rfl (Nat.le_of_ble_eq_true rfl) dX1_init_20 ⟨(Nat.le_of_ble_eq_true rfl), (Nat.le_refl _)⟩ (fun H locs hP hD hS => ?_)
  have hP : va_P D vwCl [(h, .inr (1, [.ref a_1])), (a_1, .inl (z 0, n, .inl (fFill (fun _ => 0) x n)))] H := hP
  have hD : va_D A [(h, .inr (1, [.ref a_1])), (a_1, .inl (z 0, n, .inl (fFill (fun _ => 0) x n)))] := hD
  have hP := sub_map (ws' := [(h, .inr (1, [.ref a_1])), (a_1, .inl (z 0, n, .inl (fFill (fun _ => 0) x n)))]) hP [0, 1] rfl
  have hD := hD.sub (ws' := [(h, .inr (1, [.ref a_1])), (a_1, .inl (z 0, n, .inl (fFill (fun _ => 0) x n)))]) [0, 1] (by decide) rfl
  exact qt_v (fun k => ([a_1] : List Nat).getD k 0) hx hb hr hlocks hP hD hS dX1_init_23 rfl (rfl) trivial (Nat.le_refl _) (Nat.le_refl _)
set_option maxRecDepth 20000 in
theorem in_X0_init_X1 : ∀ w ∈ wsX10, w ∈ wsX0_init := mem_r _ [27] (by decide +kernel)
set_option maxRecDepth 20000 in
theorem in_X0_init_X0 : ∀ w ∈ wsX00, w ∈ wsX0_init := mem_r _ [28, 29] (by decide +kernel)
theorem hd_X0_init : yX0_init.cls ≠ "java/lang/invoke/MethodHandle" ∧ yX0_init.cls ≠ "java/lang/invoke/VarHandle" ∧ (parseMethodDescriptor yX0_init.desc).map (fun d => d.parameters.length) = some 0 := by decide +kernel
set_option maxHeartbeats 4000000 in
set_option maxRecDepth 100000 in
theorem c_X0_init (l : Launch) (D : va_G) (z : Nat → ClassId) (q : Nat → Nat) (h : Nat) (sz : Nat)  : Met l yX0_init wsX0_init ({ frames := 2, cells := 4, slots := 58, locals := 62 } : Room) (va_Pc [.ref h] (WP D z q [(h, .inr (0, [.null, .null]))] sz)) (QT D (va_A [(h, .inr (0, [.null, .null]))] sz) (fun _ => none) (fun _ => True) (fun u : Nat → Nat => [(h, .inr (0, [.ref (u 0), .ref (u 2)])), ((u 0), .inr (1, [.ref (u 1)])), ((u 1), .inl (z 0, 26, .inl (bIdn 26 (fFill (fun _ => 0) 0 26)))), ((u 2), .inr (1, [.ref (u 3)])), ((u 3), .inl (z 0, 30, .inl (bIdn 26 (fFill (fun _ => 0) (-1) 30))))])) 4 58 (va_A [(h, .inr (0, [.null, .null]))] sz) := by
  refine WR_mk (Qc := fun A => QT D A (fun _ => none) (fun _ => True) (fun u : Nat → Nat => [(h, .inr (0, [.ref (u 0), .ref (u 2)])), ((u 0), .inr (1, [.ref (u 1)])), ((u 1), .inl (z 0, 26, .inl (bIdn 26 (fFill (fun _ => 0) 0 26)))), ((u 2), .inr (1, [.ref (u 3)])), ((u 3), .inl (z 0, 30, .inl (bIdn 26 (fFill (fun _ => 0) (-1) 30))))])) (mc := 4) (ms := 58) (cc := cX0_init) (maxL := 2) (ret := none) (by decide) rfl (Nat.le_of_ble_eq_true rfl) ?_
  intro p e s m below meth c A hx hb hr hml hts hown hlocks hin0 H hP hD hE hS hA ls hl
  have hK := hE.1
  have hown : s.vm.findClass RX0 = some m.cls := hown
  have hin : meth.name = "<init>" := hin0 rfl
  have hl : lv_has ls 2 [(0, .ref h)] := hl
  refine lv_aload_n hx hb dX0_init_0 rfl (lv_at hl 0 rfl) ?_
  refine W.objInit hx hb hown (hts (.methodLink RX0 3 objectInit) (List.mem_of_getElem? (i := 1) rfl)) (hts (.instanceMethod objectInit) (List.mem_of_getElem? (i := 2) rfl)) (hts (.code objectInit ⟨#[0xb1]⟩ 1 none) (List.mem_of_getElem? (i := 3) rfl)) rfl (by rw [hml]; exact hl.1) rfl dX0_init_1 (Nat.le_of_ble_eq_true rfl) (Nat.le_of_ble_eq_true rfl) ?_
  refine W.eq (g2 := F0 m 4 ls []) rfl ?_
  refine lv_aload_n hx hb dX0_init_4 rfl (lv_at hl 0 rfl) ?_
  refine va_new (ci := 1) (fs := [.null]) (C := RX1) (T := TX1) (N := 1) hx hb hts in_X0_init_X1 tyX1 tyX1_ok hown (hts (.classLink RX0 9 RX1) (List.mem_of_getElem? (i := 4) rfl)) (hts (.instantiable RX1 1) (List.mem_of_getElem? (i := 5) rfl)) (hts (.initialized RX1) (List.mem_of_getElem? (i := 6) rfl)) hK hP hD hS hA rfl (fun j hj => by rcases (show j = 0 by omega) with rfl <;> rfl) (Nat.le_of_ble_eq_true rfl) (Nat.le_of_ble_eq_true rfl) dX0_init_5 (fun a_1 H hP hD hS => ?_)
  have hP : va_P D vwCl [(h, .inr (0, [.null, .null])), (a_1, .inr (1, [.null]))] H := hP
  have hD : va_D A [(h, .inr (0, [.null, .null])), (a_1, .inr (1, [.null]))] := hD
  refine W.widen (k := 1) (n := 1) (Nat.le_refl _) (Nat.le_refl _) ?_
  refine lv_dup hx hb dX0_init_8 rfl ?_
  refine lv_bipush (v := 26) hx hb dX0_init_9 (by decide) ?_
  refine lv_iconst (v := 0) hx hb dX0_init_11 (by decide) ?_
  refine qtI (As := [.int 26, .int 0]) (rest := [.ref a_1, .ref h]) (wr := [(h, .inr (0, [.null, .null]))]) ⟨hx, hb, hml, hown, hts⟩ (c_X1_init l D z q a_1 26 0 26 H.size rfl (Nat.le_of_ble_eq_true rfl)) (cwI 2 hts gX0_init_X1_init rfl rfl rfl (hts (.initialized RX1) (List.mem_of_getElem? (i := 6) rfl)) (hts (.methodLink RX0 11 yX1_init) (List.mem_of_getElem? (i := 9) rfl)) (hts (.instanceMethod yX1_init) (List.mem_of_getElem? (i := 10) rfl)) rfl hd_X1_init ⟨Nat.le_of_ble_eq_true rfl, Nat.le_of_ble_eq_true rfl⟩) hE hS hA hP hD [1] [0] rfl rfl rfl rfl (by decide) rfl hl.1 rfl (Nat.le_of_ble_eq_true rfl) dX0_init_12 ⟨(Nat.le_of_ble_eq_true rfl), (Nat.le_of_ble_eq_true rfl)⟩ (fun u_2 H locs _ hP hD hS => ?_)
  have hP : va_P D vwCl [(h, .inr (0, [.null, .null])), (a_1, .inr (1, [.ref (u_2 0)])), ((u_2 0), .inl (z 0, 26, .inl (fFill (fun _ => 0) 0 26)))] H := hP
  have hD : va_D A [(h, .inr (0, [.null, .null])), (a_1, .inr (1, [.ref (u_2 0)])), ((u_2 0), .inl (z 0, 26, .inl (fFill (fun _ => 0) 0 26)))] := hD
  refine W.widen (k := 2) (n := 27) (Nat.le_refl _) (Nat.le_refl _) ?_
  refine va_putF (D := D) (ci := 0) (v := .ref a_1) (ty := .object "TypingCoach$Cells") (C := RX0) (T := TX0) (N := 2) hx hb hts in_X0_init_X0 tyX0 tyX0_ok nmX0 hown hK hP hD hS 0 rfl rfl 0 (by decide) (hts (.fieldLink RX0 14 "TypingCoach$Board" "placeOfLetter" "LTypingCoach$Cells;") (List.mem_of_getElem? (i := 7) rfl)) (fun _ h9 => h9) rfl hin rfl (by decide +kernel) rfl rfl (Nat.le_of_ble_eq_true rfl) dX0_init_15 (fun H locs hP hD hS => ?_)
  have hP : va_P D vwCl [(h, .inr (0, [.ref a_1, .null])), (a_1, .inr (1, [.ref (u_2 0)])), ((u_2 0), .inl (z 0, 26, .inl (fFill (fun _ => 0) 0 26)))] H := hP
  have hD : va_D A [(h, .inr (0, [.ref a_1, .null])), (a_1, .inr (1, [.ref (u_2 0)])), ((u_2 0), .inl (z 0, 26, .inl (fFill (fun _ => 0) 0 26)))] := hD
  refine lv_aload_n hx hb dX0_init_18 rfl (lv_at hl 0 rfl) ?_
  refine va_new (ci := 1) (fs := [.null]) (C := RX1) (T := TX1) (N := 1) hx hb hts in_X0_init_X1 tyX1 tyX1_ok hown (hts (.classLink RX0 9 RX1) (List.mem_of_getElem? (i := 4) rfl)) (hts (.instantiable RX1 1) (List.mem_of_getElem? (i := 5) rfl)) (hts (.initialized RX1) (List.mem_of_getElem? (i := 6) rfl)) hK hP hD hS hA rfl (fun j hj => by rcases (show j = 0 by omega) with rfl <;> rfl) (Nat.le_of_ble_eq_true rfl) (Nat.le_of_ble_eq_true rfl) dX0_init_19 (fun a_3 H hP hD hS => ?_)
  have hP : va_P D vwCl [(h, .inr (0, [.ref a_1, .null])), (a_1, .inr (1, [.ref (u_2 0)])), ((u_2 0), .inl (z 0, 26, .inl (fFill (fun _ => 0) 0 26))), (a_3, .inr (1, [.null]))] H := hP
  have hD : va_D A [(h, .inr (0, [.ref a_1, .null])), (a_1, .inr (1, [.ref (u_2 0)])), ((u_2 0), .inl (z 0, 26, .inl (fFill (fun _ => 0) 0 26))), (a_3, .inr (1, [.null]))] := hD
  refine W.widen (k := 3) (n := 28) (Nat.le_refl _) (Nat.le_refl _) ?_
  refine lv_dup hx hb dX0_init_22 rfl ?_
  refine lv_bipush (v := 30) hx hb dX0_init_23 (by decide) ?_
  refine lv_iconst (v := (-1)) hx hb dX0_init_25 (by decide) ?_
  refine qtI (As := [.int 30, .int (-1)]) (rest := [.ref a_3, .ref h]) (wr := [(h, .inr (0, [.ref a_1, .null])), (a_1, .inr (1, [.ref (u_2 0)])), ((u_2 0), .inl (z 0, 26, .inl (fFill (fun _ => 0) 0 26)))]) ⟨hx, hb, hml, hown, hts⟩ (c_X1_init l D z q a_3 30 (-1) 30 H.size rfl (Nat.le_of_ble_eq_true rfl)) (cwI 2 hts gX0_init_X1_init rfl rfl rfl (hts (.initialized RX1) (List.mem_of_getElem? (i := 6) rfl)) (hts (.methodLink RX0 11 yX1_init) (List.mem_of_getElem? (i := 9) rfl)) (hts (.instanceMethod yX1_init) (List.mem_of_getElem? (i := 10) rfl)) rfl hd_X1_init ⟨Nat.le_of_ble_eq_true rfl, Nat.le_of_ble_eq_true rfl⟩) hE hS hA hP hD [3] [0, 1, 2] rfl rfl rfl rfl (by decide) rfl hl.1 rfl (Nat.le_of_ble_eq_true rfl) dX0_init_26 ⟨(Nat.le_of_ble_eq_true rfl), (Nat.le_of_ble_eq_true rfl)⟩ (fun u_4 H locs _ hP hD hS => ?_)
  have hP : va_P D vwCl [(h, .inr (0, [.ref a_1, .null])), (a_1, .inr (1, [.ref (u_2 0)])), ((u_2 0), .inl (z 0, 26, .inl (fFill (fun _ => 0) 0 26))), (a_3, .inr (1, [.ref (u_4 0)])), ((u_4 0), .inl (z 0, 30, .inl (fFill (fun _ => 0) (-1) 30)))] H := hP
  have hD : va_D A [(h, .inr (0, [.ref a_1, .null])), (a_1, .inr (1, [.ref (u_2 0)])), ((u_2 0), .inl (z 0, 26, .inl (fFill (fun _ => 0) 0 26))), (a_3, .inr (1, [.ref (u_4 0)])), ((u_4 0), .inl (z 0, 30, .inl (fFill (fun _ => 0) (-1) 30)))] := hD
  refine W.widen (k := 4) (n := 58) (Nat.le_refl _) (Nat.le_refl _) ?_
  refine va_putF (D := D) (ci := 0) (v := .ref a_3) (ty := .object "TypingCoach$Cells") (C := RX0) (T := TX0) (N := 2) hx hb hts in_X0_init_X0 tyX0 tyX0_ok nmX0 hown hK hP hD hS 0 rfl rfl 1 (by decide) (hts (.fieldLink RX0 20 "TypingCoach$Board" "letterOfPlace" "LTypingCoach$Cells;") (List.mem_of_getElem? (i := 8) rfl)) (fun _ h9 => h9) rfl hin rfl (by decide +kernel) rfl rfl (Nat.le_of_ble_eq_true rfl) dX0_init_29 (fun H locs hP hD hS => ?_)
  have hP : va_P D vwCl [(h, .inr (0, [.ref a_1, .ref a_3])), (a_1, .inr (1, [.ref (u_2 0)])), ((u_2 0), .inl (z 0, 26, .inl (fFill (fun _ => 0) 0 26))), (a_3, .inr (1, [.ref (u_4 0)])), ((u_4 0), .inl (z 0, 30, .inl (fFill (fun _ => 0) (-1) 30)))] H := hP
  have hD : va_D A [(h, .inr (0, [.ref a_1, .ref a_3])), (a_1, .inr (1, [.ref (u_2 0)])), ((u_2 0), .inl (z 0, 26, .inl (fFill (fun _ => 0) 0 26))), (a_3, .inr (1, [.ref (u_4 0)])), ((u_4 0), .inl (z 0, 30, .inl (fFill (fun _ => 0) (-1) 30)))] := hD
  refine lv_iconst (v := 0) hx hb dX0_init_32 (by decide) ?_
  refine lv_istore_n (lv' := [(1, .int 0), (0, .ref h)]) hx hb dX0_init_33 rfl hl (by decide) rfl (fun ls hl => ?_)
  have loop_5 : ∀ (n : Nat) (j : Nat), j ≤ 26 → 26 < j + n → ∀ (H : Heap) (locs : List Loc), va_P D vwCl [(h, .inr (0, [.ref a_1, .ref a_3])), (a_1, .inr (1, [.ref (u_2 0)])), ((u_2 0), .inl (z 0, 26, .inl (bIdn j (fFill (fun _ => 0) 0 26)))), (a_3, .inr (1, [.ref (u_4 0)])), ((u_4 0), .inl (z 0, 30, .inl (bIdn j (fFill (fun _ => 0) (-1) 30))))] H → va_D A [(h, .inr (0, [.ref a_1, .ref a_3])), (a_1, .inr (1, [.ref (u_2 0)])), ((u_2 0), .inl (z 0, 26, .inl (bIdn j (fFill (fun _ => 0) 0 26)))), (a_3, .inr (1, [.ref (u_4 0)])), ((u_4 0), .inl (z 0, 30, .inl (bIdn j (fFill (fun _ => 0) (-1) 30))))] → va_S A s.heap H locs → ∀ ls : Array Slot, lv_has ls 2 [(1, .int (nI j)), (0, .ref h)] → W p l e ({ frames := 2, cells := 4, slots := 58, locals := 62 } : Room) s m ([.ref h] : List Value).toArray below meth c H locs 4 58 (MQ below (QT D A (fun _ => none) (fun _ => True) (fun u : Nat → Nat => [(h, .inr (0, [.ref (u 0), .ref (u 2)])), ((u 0), .inr (1, [.ref (u 1)])), ((u 1), .inl (z 0, 26, .inl (bIdn 26 (fFill (fun _ => 0) 0 26)))), ((u 2), .inr (1, [.ref (u 3)])), ((u 3), .inl (z 0, 30, .inl (bIdn 26 (fFill (fun _ => 0) (-1) 30))))])) ([.ref h] : List Value).toArray s 4 58 A) (F0 m 34 ls []) := by
    intro n
    induction n with
    | zero => intro j hj hf; exact absurd hf (by omega)
    | succ n ih =>
      intro j hj hf H locs hP hD hS ls hl
      refine lv_iload_n hx hb dX0_init_34 rfl (lv_at hl 0 rfl) ?_
      refine lv_bipush (v := 26) hx hb dX0_init_35 (by decide) ?_
      refine lv_icmp_ge (tgt := 64) hx hb dX0_init_37 (by decide) (fun c_6 => ?_) (fun c_6 => ?_)
      · have hj2 : j = 26 := lpx c_6 hj (Nat.le_of_ble_eq_true rfl) rfl
        have hP := sub_map (ws' := [(h, .inr (0, [.ref a_1, .ref a_3])), (a_1, .inr (1, [.ref (u_2 0)])), ((u_2 0), .inl (z 0, 26, .inl (bIdn j (fFill (fun _ => 0) 0 26)))), (a_3, .inr (1, [.ref (u_4 0)])), ((u_4 0), .inl (z 0, 30, .inl (bIdn j (fFill (fun _ => 0) (-1) 30))))]) hP [0, 1, 2, 3, 4] rfl
        have hD := hD.sub (ws' := [(h, .inr (0, [.ref a_1, .ref a_3])), (a_1, .inr (1, [.ref (u_2 0)])), ((u_2 0), .inl (z 0, 26, .inl (bIdn j (fFill (fun _ => 0) 0 26)))), (a_3, .inr (1, [.ref (u_4 0)])), ((u_4 0), .inl (z 0, 30, .inl (bIdn j (fFill (fun _ => 0) (-1) 30))))]) [0, 1, 2, 3, 4] (by decide) rfl
        exact qt_v (fun k => ([a_1, (u_2 0), a_3, (u_4 0)] : List Nat).getD k 0) hx hb hr hlocks hP hD hS dX0_init_64 rfl (by rw [hj2]; rfl) trivial (Nat.le_refl _) (Nat.le_refl _)
      · have hjl : j < 26 := lpn c_6 hj (Nat.le_of_ble_eq_true rfl) rfl
        refine lv_aload_n hx hb dX0_init_40 rfl (lv_at hl 1 rfl) ?_
        refine va_get (D := D) (ci := 0) (v := .ref a_1) (C := RX0) (T := TX0) (N := 2) hx hb hts in_X0_init_X0 hown hK hP 0 rfl rfl 0 (by decide) (hts (.fieldLink RX0 14 "TypingCoach$Board" "placeOfLetter" "LTypingCoach$Cells;") (List.mem_of_getElem? (i := 7) rfl)) (fun _ h9 => h9) rfl dX0_init_41 ?_
        refine lv_iload_n hx hb dX0_init_44 rfl (lv_at hl 0 rfl) ?_
        refine lv_iload_n hx hb dX0_init_45 rfl (lv_at hl 0 rfl) ?_
        refine wrVv (As := [.int (nI j), .int (nI j)]) (rest := []) ⟨hx, hb, hml, hown, hts⟩ (c_X1_set l D z q a_1 (u_2 0) 26 (bIdn j (fFill (fun _ => 0) 0 26)) (nI j) (nI j) H.size (Nat.le_of_ble_eq_true rfl)) (cwV 2 hts gX0_init_X1_set rfl rfl rfl hd_X1_set ⟨Nat.le_of_ble_eq_true rfl, Nat.le_of_ble_eq_true rfl⟩) hE hS hA hP hD [1, 2] rfl rfl rfl rfl rfl rfl rfl hl.1 rfl (Nat.le_of_ble_eq_true rfl) dX0_init_46 ⟨(Nat.le_of_ble_eq_true rfl), (Nat.le_of_ble_eq_true rfl)⟩ (fun H locs hP hD hS => ?_)
        have hP : va_P D vwCl [(h, .inr (0, [.ref a_1, .ref a_3])), (a_1, .inr (1, [.ref (u_2 0)])), ((u_2 0), .inl (z 0, 26, .inl (cSet 26 (bIdn j (fFill (fun _ => 0) 0 26)) (nI j) (nI j)))), (a_3, .inr (1, [.ref (u_4 0)])), ((u_4 0), .inl (z 0, 30, .inl (bIdn j (fFill (fun _ => 0) (-1) 30))))] H := hP
        have hD : va_D A [(h, .inr (0, [.ref a_1, .ref a_3])), (a_1, .inr (1, [.ref (u_2 0)])), ((u_2 0), .inl (z 0, 26, .inl (cSet 26 (bIdn j (fFill (fun _ => 0) 0 26)) (nI j) (nI j)))), (a_3, .inr (1, [.ref (u_4 0)])), ((u_4 0), .inl (z 0, 30, .inl (bIdn j (fFill (fun _ => 0) (-1) 30))))] := hD
        refine lv_aload_n hx hb dX0_init_49 rfl (lv_at hl 1 rfl) ?_
        refine va_get (D := D) (ci := 0) (v := .ref a_3) (C := RX0) (T := TX0) (N := 2) hx hb hts in_X0_init_X0 hown hK hP 0 rfl rfl 1 (by decide) (hts (.fieldLink RX0 20 "TypingCoach$Board" "letterOfPlace" "LTypingCoach$Cells;") (List.mem_of_getElem? (i := 8) rfl)) (fun _ h9 => h9) rfl dX0_init_50 ?_
        refine lv_iload_n hx hb dX0_init_53 rfl (lv_at hl 0 rfl) ?_
        refine lv_iload_n hx hb dX0_init_54 rfl (lv_at hl 0 rfl) ?_
        refine wrVv (As := [.int (nI j), .int (nI j)]) (rest := []) ⟨hx, hb, hml, hown, hts⟩ (c_X1_set l D z q a_3 (u_4 0) 30 (bIdn j (fFill (fun _ => 0) (-1) 30)) (nI j) (nI j) H.size (Nat.le_of_ble_eq_true rfl)) (cwV 2 hts gX0_init_X1_set rfl rfl rfl hd_X1_set ⟨Nat.le_of_ble_eq_true rfl, Nat.le_of_ble_eq_true rfl⟩) hE hS hA hP hD [3, 4] rfl rfl rfl rfl rfl rfl rfl hl.1 rfl (Nat.le_of_ble_eq_true rfl) dX0_init_55 ⟨(Nat.le_of_ble_eq_true rfl), (Nat.le_of_ble_eq_true rfl)⟩ (fun H locs hP hD hS => ?_)
        have hP : va_P D vwCl [(h, .inr (0, [.ref a_1, .ref a_3])), (a_1, .inr (1, [.ref (u_2 0)])), ((u_2 0), .inl (z 0, 26, .inl (cSet 26 (bIdn j (fFill (fun _ => 0) 0 26)) (nI j) (nI j)))), (a_3, .inr (1, [.ref (u_4 0)])), ((u_4 0), .inl (z 0, 30, .inl (cSet 30 (bIdn j (fFill (fun _ => 0) (-1) 30)) (nI j) (nI j))))] H := hP
        have hD : va_D A [(h, .inr (0, [.ref a_1, .ref a_3])), (a_1, .inr (1, [.ref (u_2 0)])), ((u_2 0), .inl (z 0, 26, .inl (cSet 26 (bIdn j (fFill (fun _ => 0) 0 26)) (nI j) (nI j)))), (a_3, .inr (1, [.ref (u_4 0)])), ((u_4 0), .inl (z 0, 30, .inl (cSet 30 (bIdn j (fFill (fun _ => 0) (-1) 30)) (nI j) (nI j))))] := hD
        refine lv_iinc (v := nI (j + 1)) (lv' := [(1, .int (nI (j + 1))), (0, .ref h)]) hx hb dX0_init_58 hl (k := 0) rfl (nI_1 j) (by decide) rfl (fun ls hl => ?_)
        refine lv_goto (tgt := 34) hx hb dX0_init_61 (by decide) ?_
        rw [bIdn_s (n := 26) _ hjl (Nat.le_of_ble_eq_true rfl), bIdn_s (n := 30) _ (by omega) (Nat.le_of_ble_eq_true rfl)] at hP hD
        exact ih (j + 1) (by omega) (by omega) _ _ hP hD hS ls (lv_sub hl [0, 1] rfl)
  exact loop_5 27 0 (by omega) (by omega) _ _ (by simp only [bIdn_0]; exact hP) (by simp only [bIdn_0]; exact hD) hS ls (lv_sub hl [0, 1] rfl)
set_option maxRecDepth 20000 in
theorem in_X2_init_X1 : ∀ w ∈ wsX10, w ∈ wsX2_init := mem_r _ [27] (by decide +kernel)
set_option maxRecDepth 20000 in
theorem in_X2_init_X2 : ∀ w ∈ wsX20, w ∈ wsX2_init := mem_r _ [28, 29, 30, 31, 32, 33] (by decide +kernel)
theorem hd_X2_init : yX2_init.cls ≠ "java/lang/invoke/MethodHandle" ∧ yX2_init.cls ≠ "java/lang/invoke/VarHandle" ∧ (parseMethodDescriptor yX2_init.desc).map (fun d => d.parameters.length) = some 0 := by decide +kernel
set_option maxHeartbeats 4000000 in
set_option maxRecDepth 100000 in
theorem c_X2_init (l : Launch) (D : va_G) (z : Nat → ClassId) (q : Nat → Nat) (h : Nat) (wt : Int32) (wh : Int32) (sz : Nat)  : Met l yX2_init wsX2_init ({ frames := 2, cells := 8, slots := 758, locals := 62 } : Room) (va_Pc [.ref h] (WP D z q [(h, .inr (2, [.null, .null, .null, .null, .int wt, .int wh]))] sz)) (QT D (va_A [(h, .inr (2, [.null, .null, .null, .null, .int wt, .int wh]))] sz) (fun _ => none) (fun _ => True) (fun u : Nat → Nat => [(h, .inr (2, [.ref (u 0), .ref (u 2), .ref (u 4), .ref (u 6), .int 300, .int 1000])), ((u 0), .inr (1, [.ref (u 1)])), ((u 1), .inl (z 0, 26, .inl (fFill (fun _ => 0) 0 26))), ((u 2), .inr (1, [.ref (u 3)])), ((u 3), .inl (z 0, 26, .inl (fFill (fun _ => 0) 400 26))), ((u 4), .inr (1, [.ref (u 5)])), ((u 5), .inl (z 0, 26, .inl (fFill (fun _ => 0) 0 26))), ((u 6), .inr (1, [.ref (u 7)])), ((u 7), .inl (z 0, 676, .inl (fFill (fun _ => 0) 400 676)))])) 8 758 (va_A [(h, .inr (2, [.null, .null, .null, .null, .int wt, .int wh]))] sz) := by
  refine WR_mk (Qc := fun A => QT D A (fun _ => none) (fun _ => True) (fun u : Nat → Nat => [(h, .inr (2, [.ref (u 0), .ref (u 2), .ref (u 4), .ref (u 6), .int 300, .int 1000])), ((u 0), .inr (1, [.ref (u 1)])), ((u 1), .inl (z 0, 26, .inl (fFill (fun _ => 0) 0 26))), ((u 2), .inr (1, [.ref (u 3)])), ((u 3), .inl (z 0, 26, .inl (fFill (fun _ => 0) 400 26))), ((u 4), .inr (1, [.ref (u 5)])), ((u 5), .inl (z 0, 26, .inl (fFill (fun _ => 0) 0 26))), ((u 6), .inr (1, [.ref (u 7)])), ((u 7), .inl (z 0, 676, .inl (fFill (fun _ => 0) 400 676)))])) (mc := 8) (ms := 758) (cc := cX2_init) (maxL := 1) (ret := none) (by decide) rfl (Nat.le_of_ble_eq_true rfl) ?_
  intro p e s m below meth c A hx hb hr hml hts hown hlocks hin0 H hP hD hE hS hA ls hl
  have hK := hE.1
  have hown : s.vm.findClass RX2 = some m.cls := hown
  have hin : meth.name = "<init>" := hin0 rfl
  have hl : lv_has ls 1 [(0, .ref h)] := hl
  refine lv_aload_n hx hb dX2_init_0 rfl (lv_at hl 0 rfl) ?_
  refine W.objInit hx hb hown (hts (.methodLink RX2 3 objectInit) (List.mem_of_getElem? (i := 1) rfl)) (hts (.instanceMethod objectInit) (List.mem_of_getElem? (i := 2) rfl)) (hts (.code objectInit ⟨#[0xb1]⟩ 1 none) (List.mem_of_getElem? (i := 3) rfl)) rfl (by rw [hml]; exact hl.1) rfl dX2_init_1 (Nat.le_of_ble_eq_true rfl) (Nat.le_of_ble_eq_true rfl) ?_
  refine W.eq (g2 := F0 m 4 ls []) rfl ?_
  refine lv_aload_n hx hb dX2_init_4 rfl (lv_at hl 0 rfl) ?_
  refine va_new (ci := 1) (fs := [.null]) (C := RX1) (T := TX1) (N := 1) hx hb hts in_X2_init_X1 tyX1 tyX1_ok hown (hts (.classLink RX2 9 RX1) (List.mem_of_getElem? (i := 4) rfl)) (hts (.instantiable RX1 1) (List.mem_of_getElem? (i := 5) rfl)) (hts (.initialized RX1) (List.mem_of_getElem? (i := 6) rfl)) hK hP hD hS hA rfl (fun j hj => by rcases (show j = 0 by omega) with rfl <;> rfl) (Nat.le_of_ble_eq_true rfl) (Nat.le_of_ble_eq_true rfl) dX2_init_5 (fun a_1 H hP hD hS => ?_)
  have hP : va_P D vwCl [(h, .inr (2, [.null, .null, .null, .null, .int wt, .int wh])), (a_1, .inr (1, [.null]))] H := hP
  have hD : va_D A [(h, .inr (2, [.null, .null, .null, .null, .int wt, .int wh])), (a_1, .inr (1, [.null]))] := hD
  refine W.widen (k := 1) (n := 1) (Nat.le_refl _) (Nat.le_refl _) ?_
  refine lv_dup hx hb dX2_init_8 rfl ?_
  refine lv_bipush (v := 26) hx hb dX2_init_9 (by decide) ?_
  refine lv_iconst (v := 0) hx hb dX2_init_11 (by decide) ?_
  refine qtI (As := [.int 26, .int 0]) (rest := [.ref a_1, .ref h]) (wr := [(h, .inr (2, [.null, .null, .null, .null, .int wt, .int wh]))]) ⟨hx, hb, hml, hown, hts⟩ (c_X1_init l D z q a_1 26 0 26 H.size rfl (Nat.le_of_ble_eq_true rfl)) (cwI 2 hts gX2_init_X1_init rfl rfl rfl (hts (.initialized RX1) (List.mem_of_getElem? (i := 6) rfl)) (hts (.methodLink RX2 11 yX1_init) (List.mem_of_getElem? (i := 13) rfl)) (hts (.instanceMethod yX1_init) (List.mem_of_getElem? (i := 14) rfl)) rfl hd_X1_init ⟨Nat.le_of_ble_eq_true rfl, Nat.le_of_ble_eq_true rfl⟩) hE hS hA hP hD [1] [0] rfl rfl rfl rfl (by decide) rfl hl.1 rfl (Nat.le_of_ble_eq_true rfl) dX2_init_12 ⟨(Nat.le_of_ble_eq_true rfl), (Nat.le_of_ble_eq_true rfl)⟩ (fun u_2 H locs _ hP hD hS => ?_)
  have hP : va_P D vwCl [(h, .inr (2, [.null, .null, .null, .null, .int wt, .int wh])), (a_1, .inr (1, [.ref (u_2 0)])), ((u_2 0), .inl (z 0, 26, .inl (fFill (fun _ => 0) 0 26)))] H := hP
  have hD : va_D A [(h, .inr (2, [.null, .null, .null, .null, .int wt, .int wh])), (a_1, .inr (1, [.ref (u_2 0)])), ((u_2 0), .inl (z 0, 26, .inl (fFill (fun _ => 0) 0 26)))] := hD
  refine W.widen (k := 2) (n := 27) (Nat.le_refl _) (Nat.le_refl _) ?_
  refine va_putF (D := D) (ci := 2) (v := .ref a_1) (ty := .object "TypingCoach$Cells") (C := RX2) (T := TX2) (N := 6) hx hb hts in_X2_init_X2 tyX2 tyX2_ok nmX2 hown hK hP hD hS 0 rfl rfl 0 (by decide) (hts (.fieldLink RX2 14 "TypingCoach$Figures" "counts" "LTypingCoach$Cells;") (List.mem_of_getElem? (i := 7) rfl)) (fun _ h9 => h9) rfl hin rfl (by decide +kernel) rfl rfl (Nat.le_of_ble_eq_true rfl) dX2_init_15 (fun H locs hP hD hS => ?_)
  have hP : va_P D vwCl [(h, .inr (2, [.ref a_1, .null, .null, .null, .int wt, .int wh])), (a_1, .inr (1, [.ref (u_2 0)])), ((u_2 0), .inl (z 0, 26, .inl (fFill (fun _ => 0) 0 26)))] H := hP
  have hD : va_D A [(h, .inr (2, [.ref a_1, .null, .null, .null, .int wt, .int wh])), (a_1, .inr (1, [.ref (u_2 0)])), ((u_2 0), .inl (z 0, 26, .inl (fFill (fun _ => 0) 0 26)))] := hD
  refine lv_aload_n hx hb dX2_init_18 rfl (lv_at hl 0 rfl) ?_
  refine va_new (ci := 1) (fs := [.null]) (C := RX1) (T := TX1) (N := 1) hx hb hts in_X2_init_X1 tyX1 tyX1_ok hown (hts (.classLink RX2 9 RX1) (List.mem_of_getElem? (i := 4) rfl)) (hts (.instantiable RX1 1) (List.mem_of_getElem? (i := 5) rfl)) (hts (.initialized RX1) (List.mem_of_getElem? (i := 6) rfl)) hK hP hD hS hA rfl (fun j hj => by rcases (show j = 0 by omega) with rfl <;> rfl) (Nat.le_of_ble_eq_true rfl) (Nat.le_of_ble_eq_true rfl) dX2_init_19 (fun a_3 H hP hD hS => ?_)
  have hP : va_P D vwCl [(h, .inr (2, [.ref a_1, .null, .null, .null, .int wt, .int wh])), (a_1, .inr (1, [.ref (u_2 0)])), ((u_2 0), .inl (z 0, 26, .inl (fFill (fun _ => 0) 0 26))), (a_3, .inr (1, [.null]))] H := hP
  have hD : va_D A [(h, .inr (2, [.ref a_1, .null, .null, .null, .int wt, .int wh])), (a_1, .inr (1, [.ref (u_2 0)])), ((u_2 0), .inl (z 0, 26, .inl (fFill (fun _ => 0) 0 26))), (a_3, .inr (1, [.null]))] := hD
  refine W.widen (k := 3) (n := 28) (Nat.le_refl _) (Nat.le_refl _) ?_
  refine lv_dup hx hb dX2_init_22 rfl ?_
  refine lv_bipush (v := 26) hx hb dX2_init_23 (by decide) ?_
  refine lv_sipush (v := 400) hx hb dX2_init_25 (by decide) ?_
  refine qtI (As := [.int 26, .int 400]) (rest := [.ref a_3, .ref h]) (wr := [(h, .inr (2, [.ref a_1, .null, .null, .null, .int wt, .int wh])), (a_1, .inr (1, [.ref (u_2 0)])), ((u_2 0), .inl (z 0, 26, .inl (fFill (fun _ => 0) 0 26)))]) ⟨hx, hb, hml, hown, hts⟩ (c_X1_init l D z q a_3 26 400 26 H.size rfl (Nat.le_of_ble_eq_true rfl)) (cwI 2 hts gX2_init_X1_init rfl rfl rfl (hts (.initialized RX1) (List.mem_of_getElem? (i := 6) rfl)) (hts (.methodLink RX2 11 yX1_init) (List.mem_of_getElem? (i := 13) rfl)) (hts (.instanceMethod yX1_init) (List.mem_of_getElem? (i := 14) rfl)) rfl hd_X1_init ⟨Nat.le_of_ble_eq_true rfl, Nat.le_of_ble_eq_true rfl⟩) hE hS hA hP hD [3] [0, 1, 2] rfl rfl rfl rfl (by decide) rfl hl.1 rfl (Nat.le_of_ble_eq_true rfl) dX2_init_28 ⟨(Nat.le_of_ble_eq_true rfl), (Nat.le_of_ble_eq_true rfl)⟩ (fun u_4 H locs _ hP hD hS => ?_)
  have hP : va_P D vwCl [(h, .inr (2, [.ref a_1, .null, .null, .null, .int wt, .int wh])), (a_1, .inr (1, [.ref (u_2 0)])), ((u_2 0), .inl (z 0, 26, .inl (fFill (fun _ => 0) 0 26))), (a_3, .inr (1, [.ref (u_4 0)])), ((u_4 0), .inl (z 0, 26, .inl (fFill (fun _ => 0) 400 26)))] H := hP
  have hD : va_D A [(h, .inr (2, [.ref a_1, .null, .null, .null, .int wt, .int wh])), (a_1, .inr (1, [.ref (u_2 0)])), ((u_2 0), .inl (z 0, 26, .inl (fFill (fun _ => 0) 0 26))), (a_3, .inr (1, [.ref (u_4 0)])), ((u_4 0), .inl (z 0, 26, .inl (fFill (fun _ => 0) 400 26)))] := hD
  refine W.widen (k := 4) (n := 54) (Nat.le_refl _) (Nat.le_refl _) ?_
  refine va_putF (D := D) (ci := 2) (v := .ref a_3) (ty := .object "TypingCoach$Cells") (C := RX2) (T := TX2) (N := 6) hx hb hts in_X2_init_X2 tyX2 tyX2_ok nmX2 hown hK hP hD hS 0 rfl rfl 1 (by decide) (hts (.fieldLink RX2 20 "TypingCoach$Figures" "times" "LTypingCoach$Cells;") (List.mem_of_getElem? (i := 8) rfl)) (fun _ h9 => h9) rfl hin rfl (by decide +kernel) rfl rfl (Nat.le_of_ble_eq_true rfl) dX2_init_31 (fun H locs hP hD hS => ?_)
  have hP : va_P D vwCl [(h, .inr (2, [.ref a_1, .ref a_3, .null, .null, .int wt, .int wh])), (a_1, .inr (1, [.ref (u_2 0)])), ((u_2 0), .inl (z 0, 26, .inl (fFill (fun _ => 0) 0 26))), (a_3, .inr (1, [.ref (u_4 0)])), ((u_4 0), .inl (z 0, 26, .inl (fFill (fun _ => 0) 400 26)))] H := hP
  have hD : va_D A [(h, .inr (2, [.ref a_1, .ref a_3, .null, .null, .int wt, .int wh])), (a_1, .inr (1, [.ref (u_2 0)])), ((u_2 0), .inl (z 0, 26, .inl (fFill (fun _ => 0) 0 26))), (a_3, .inr (1, [.ref (u_4 0)])), ((u_4 0), .inl (z 0, 26, .inl (fFill (fun _ => 0) 400 26)))] := hD
  refine lv_aload_n hx hb dX2_init_34 rfl (lv_at hl 0 rfl) ?_
  refine va_new (ci := 1) (fs := [.null]) (C := RX1) (T := TX1) (N := 1) hx hb hts in_X2_init_X1 tyX1 tyX1_ok hown (hts (.classLink RX2 9 RX1) (List.mem_of_getElem? (i := 4) rfl)) (hts (.instantiable RX1 1) (List.mem_of_getElem? (i := 5) rfl)) (hts (.initialized RX1) (List.mem_of_getElem? (i := 6) rfl)) hK hP hD hS hA rfl (fun j hj => by rcases (show j = 0 by omega) with rfl <;> rfl) (Nat.le_of_ble_eq_true rfl) (Nat.le_of_ble_eq_true rfl) dX2_init_35 (fun a_5 H hP hD hS => ?_)
  have hP : va_P D vwCl [(h, .inr (2, [.ref a_1, .ref a_3, .null, .null, .int wt, .int wh])), (a_1, .inr (1, [.ref (u_2 0)])), ((u_2 0), .inl (z 0, 26, .inl (fFill (fun _ => 0) 0 26))), (a_3, .inr (1, [.ref (u_4 0)])), ((u_4 0), .inl (z 0, 26, .inl (fFill (fun _ => 0) 400 26))), (a_5, .inr (1, [.null]))] H := hP
  have hD : va_D A [(h, .inr (2, [.ref a_1, .ref a_3, .null, .null, .int wt, .int wh])), (a_1, .inr (1, [.ref (u_2 0)])), ((u_2 0), .inl (z 0, 26, .inl (fFill (fun _ => 0) 0 26))), (a_3, .inr (1, [.ref (u_4 0)])), ((u_4 0), .inl (z 0, 26, .inl (fFill (fun _ => 0) 400 26))), (a_5, .inr (1, [.null]))] := hD
  refine W.widen (k := 5) (n := 55) (Nat.le_refl _) (Nat.le_refl _) ?_
  refine lv_dup hx hb dX2_init_38 rfl ?_
  refine lv_bipush (v := 26) hx hb dX2_init_39 (by decide) ?_
  refine lv_iconst (v := 0) hx hb dX2_init_41 (by decide) ?_
  refine qtI (As := [.int 26, .int 0]) (rest := [.ref a_5, .ref h]) (wr := [(h, .inr (2, [.ref a_1, .ref a_3, .null, .null, .int wt, .int wh])), (a_1, .inr (1, [.ref (u_2 0)])), ((u_2 0), .inl (z 0, 26, .inl (fFill (fun _ => 0) 0 26))), (a_3, .inr (1, [.ref (u_4 0)])), ((u_4 0), .inl (z 0, 26, .inl (fFill (fun _ => 0) 400 26)))]) ⟨hx, hb, hml, hown, hts⟩ (c_X1_init l D z q a_5 26 0 26 H.size rfl (Nat.le_of_ble_eq_true rfl)) (cwI 2 hts gX2_init_X1_init rfl rfl rfl (hts (.initialized RX1) (List.mem_of_getElem? (i := 6) rfl)) (hts (.methodLink RX2 11 yX1_init) (List.mem_of_getElem? (i := 13) rfl)) (hts (.instanceMethod yX1_init) (List.mem_of_getElem? (i := 14) rfl)) rfl hd_X1_init ⟨Nat.le_of_ble_eq_true rfl, Nat.le_of_ble_eq_true rfl⟩) hE hS hA hP hD [5] [0, 1, 2, 3, 4] rfl rfl rfl rfl (by decide) rfl hl.1 rfl (Nat.le_of_ble_eq_true rfl) dX2_init_42 ⟨(Nat.le_of_ble_eq_true rfl), (Nat.le_of_ble_eq_true rfl)⟩ (fun u_6 H locs _ hP hD hS => ?_)
  have hP : va_P D vwCl [(h, .inr (2, [.ref a_1, .ref a_3, .null, .null, .int wt, .int wh])), (a_1, .inr (1, [.ref (u_2 0)])), ((u_2 0), .inl (z 0, 26, .inl (fFill (fun _ => 0) 0 26))), (a_3, .inr (1, [.ref (u_4 0)])), ((u_4 0), .inl (z 0, 26, .inl (fFill (fun _ => 0) 400 26))), (a_5, .inr (1, [.ref (u_6 0)])), ((u_6 0), .inl (z 0, 26, .inl (fFill (fun _ => 0) 0 26)))] H := hP
  have hD : va_D A [(h, .inr (2, [.ref a_1, .ref a_3, .null, .null, .int wt, .int wh])), (a_1, .inr (1, [.ref (u_2 0)])), ((u_2 0), .inl (z 0, 26, .inl (fFill (fun _ => 0) 0 26))), (a_3, .inr (1, [.ref (u_4 0)])), ((u_4 0), .inl (z 0, 26, .inl (fFill (fun _ => 0) 400 26))), (a_5, .inr (1, [.ref (u_6 0)])), ((u_6 0), .inl (z 0, 26, .inl (fFill (fun _ => 0) 0 26)))] := hD
  refine W.widen (k := 6) (n := 81) (Nat.le_refl _) (Nat.le_refl _) ?_
  refine va_putF (D := D) (ci := 2) (v := .ref a_5) (ty := .object "TypingCoach$Cells") (C := RX2) (T := TX2) (N := 6) hx hb hts in_X2_init_X2 tyX2 tyX2_ok nmX2 hown hK hP hD hS 0 rfl rfl 2 (by decide) (hts (.fieldLink RX2 23 "TypingCoach$Figures" "shares" "LTypingCoach$Cells;") (List.mem_of_getElem? (i := 9) rfl)) (fun _ h9 => h9) rfl hin rfl (by decide +kernel) rfl rfl (Nat.le_of_ble_eq_true rfl) dX2_init_45 (fun H locs hP hD hS => ?_)
  have hP : va_P D vwCl [(h, .inr (2, [.ref a_1, .ref a_3, .ref a_5, .null, .int wt, .int wh])), (a_1, .inr (1, [.ref (u_2 0)])), ((u_2 0), .inl (z 0, 26, .inl (fFill (fun _ => 0) 0 26))), (a_3, .inr (1, [.ref (u_4 0)])), ((u_4 0), .inl (z 0, 26, .inl (fFill (fun _ => 0) 400 26))), (a_5, .inr (1, [.ref (u_6 0)])), ((u_6 0), .inl (z 0, 26, .inl (fFill (fun _ => 0) 0 26)))] H := hP
  have hD : va_D A [(h, .inr (2, [.ref a_1, .ref a_3, .ref a_5, .null, .int wt, .int wh])), (a_1, .inr (1, [.ref (u_2 0)])), ((u_2 0), .inl (z 0, 26, .inl (fFill (fun _ => 0) 0 26))), (a_3, .inr (1, [.ref (u_4 0)])), ((u_4 0), .inl (z 0, 26, .inl (fFill (fun _ => 0) 400 26))), (a_5, .inr (1, [.ref (u_6 0)])), ((u_6 0), .inl (z 0, 26, .inl (fFill (fun _ => 0) 0 26)))] := hD
  refine lv_aload_n hx hb dX2_init_48 rfl (lv_at hl 0 rfl) ?_
  refine va_new (ci := 1) (fs := [.null]) (C := RX1) (T := TX1) (N := 1) hx hb hts in_X2_init_X1 tyX1 tyX1_ok hown (hts (.classLink RX2 9 RX1) (List.mem_of_getElem? (i := 4) rfl)) (hts (.instantiable RX1 1) (List.mem_of_getElem? (i := 5) rfl)) (hts (.initialized RX1) (List.mem_of_getElem? (i := 6) rfl)) hK hP hD hS hA rfl (fun j hj => by rcases (show j = 0 by omega) with rfl <;> rfl) (Nat.le_of_ble_eq_true rfl) (Nat.le_of_ble_eq_true rfl) dX2_init_49 (fun a_7 H hP hD hS => ?_)
  have hP : va_P D vwCl [(h, .inr (2, [.ref a_1, .ref a_3, .ref a_5, .null, .int wt, .int wh])), (a_1, .inr (1, [.ref (u_2 0)])), ((u_2 0), .inl (z 0, 26, .inl (fFill (fun _ => 0) 0 26))), (a_3, .inr (1, [.ref (u_4 0)])), ((u_4 0), .inl (z 0, 26, .inl (fFill (fun _ => 0) 400 26))), (a_5, .inr (1, [.ref (u_6 0)])), ((u_6 0), .inl (z 0, 26, .inl (fFill (fun _ => 0) 0 26))), (a_7, .inr (1, [.null]))] H := hP
  have hD : va_D A [(h, .inr (2, [.ref a_1, .ref a_3, .ref a_5, .null, .int wt, .int wh])), (a_1, .inr (1, [.ref (u_2 0)])), ((u_2 0), .inl (z 0, 26, .inl (fFill (fun _ => 0) 0 26))), (a_3, .inr (1, [.ref (u_4 0)])), ((u_4 0), .inl (z 0, 26, .inl (fFill (fun _ => 0) 400 26))), (a_5, .inr (1, [.ref (u_6 0)])), ((u_6 0), .inl (z 0, 26, .inl (fFill (fun _ => 0) 0 26))), (a_7, .inr (1, [.null]))] := hD
  refine W.widen (k := 7) (n := 82) (Nat.le_refl _) (Nat.le_refl _) ?_
  refine lv_dup hx hb dX2_init_52 rfl ?_
  refine lv_sipush (v := 676) hx hb dX2_init_53 (by decide) ?_
  refine lv_sipush (v := 400) hx hb dX2_init_56 (by decide) ?_
  refine qtI (As := [.int 676, .int 400]) (rest := [.ref a_7, .ref h]) (wr := [(h, .inr (2, [.ref a_1, .ref a_3, .ref a_5, .null, .int wt, .int wh])), (a_1, .inr (1, [.ref (u_2 0)])), ((u_2 0), .inl (z 0, 26, .inl (fFill (fun _ => 0) 0 26))), (a_3, .inr (1, [.ref (u_4 0)])), ((u_4 0), .inl (z 0, 26, .inl (fFill (fun _ => 0) 400 26))), (a_5, .inr (1, [.ref (u_6 0)])), ((u_6 0), .inl (z 0, 26, .inl (fFill (fun _ => 0) 0 26)))]) ⟨hx, hb, hml, hown, hts⟩ (c_X1_init l D z q a_7 676 400 676 H.size rfl (Nat.le_of_ble_eq_true rfl)) (cwI 2 hts gX2_init_X1_init rfl rfl rfl (hts (.initialized RX1) (List.mem_of_getElem? (i := 6) rfl)) (hts (.methodLink RX2 11 yX1_init) (List.mem_of_getElem? (i := 13) rfl)) (hts (.instanceMethod yX1_init) (List.mem_of_getElem? (i := 14) rfl)) rfl hd_X1_init ⟨Nat.le_of_ble_eq_true rfl, Nat.le_of_ble_eq_true rfl⟩) hE hS hA hP hD [7] [0, 1, 2, 3, 4, 5, 6] rfl rfl rfl rfl (by decide) rfl hl.1 rfl (Nat.le_of_ble_eq_true rfl) dX2_init_59 ⟨(Nat.le_of_ble_eq_true rfl), (Nat.le_of_ble_eq_true rfl)⟩ (fun u_8 H locs _ hP hD hS => ?_)
  have hP : va_P D vwCl [(h, .inr (2, [.ref a_1, .ref a_3, .ref a_5, .null, .int wt, .int wh])), (a_1, .inr (1, [.ref (u_2 0)])), ((u_2 0), .inl (z 0, 26, .inl (fFill (fun _ => 0) 0 26))), (a_3, .inr (1, [.ref (u_4 0)])), ((u_4 0), .inl (z 0, 26, .inl (fFill (fun _ => 0) 400 26))), (a_5, .inr (1, [.ref (u_6 0)])), ((u_6 0), .inl (z 0, 26, .inl (fFill (fun _ => 0) 0 26))), (a_7, .inr (1, [.ref (u_8 0)])), ((u_8 0), .inl (z 0, 676, .inl (fFill (fun _ => 0) 400 676)))] H := hP
  have hD : va_D A [(h, .inr (2, [.ref a_1, .ref a_3, .ref a_5, .null, .int wt, .int wh])), (a_1, .inr (1, [.ref (u_2 0)])), ((u_2 0), .inl (z 0, 26, .inl (fFill (fun _ => 0) 0 26))), (a_3, .inr (1, [.ref (u_4 0)])), ((u_4 0), .inl (z 0, 26, .inl (fFill (fun _ => 0) 400 26))), (a_5, .inr (1, [.ref (u_6 0)])), ((u_6 0), .inl (z 0, 26, .inl (fFill (fun _ => 0) 0 26))), (a_7, .inr (1, [.ref (u_8 0)])), ((u_8 0), .inl (z 0, 676, .inl (fFill (fun _ => 0) 400 676)))] := hD
  refine W.widen (k := 8) (n := 758) (Nat.le_refl _) (Nat.le_refl _) ?_
  refine va_putF (D := D) (ci := 2) (v := .ref a_7) (ty := .object "TypingCoach$Cells") (C := RX2) (T := TX2) (N := 6) hx hb hts in_X2_init_X2 tyX2 tyX2_ok nmX2 hown hK hP hD hS 0 rfl rfl 3 (by decide) (hts (.fieldLink RX2 26 "TypingCoach$Figures" "pairTimes" "LTypingCoach$Cells;") (List.mem_of_getElem? (i := 10) rfl)) (fun _ h9 => h9) rfl hin rfl (by decide +kernel) rfl rfl (Nat.le_of_ble_eq_true rfl) dX2_init_62 (fun H locs hP hD hS => ?_)
  have hP : va_P D vwCl [(h, .inr (2, [.ref a_1, .ref a_3, .ref a_5, .ref a_7, .int wt, .int wh])), (a_1, .inr (1, [.ref (u_2 0)])), ((u_2 0), .inl (z 0, 26, .inl (fFill (fun _ => 0) 0 26))), (a_3, .inr (1, [.ref (u_4 0)])), ((u_4 0), .inl (z 0, 26, .inl (fFill (fun _ => 0) 400 26))), (a_5, .inr (1, [.ref (u_6 0)])), ((u_6 0), .inl (z 0, 26, .inl (fFill (fun _ => 0) 0 26))), (a_7, .inr (1, [.ref (u_8 0)])), ((u_8 0), .inl (z 0, 676, .inl (fFill (fun _ => 0) 400 676)))] H := hP
  have hD : va_D A [(h, .inr (2, [.ref a_1, .ref a_3, .ref a_5, .ref a_7, .int wt, .int wh])), (a_1, .inr (1, [.ref (u_2 0)])), ((u_2 0), .inl (z 0, 26, .inl (fFill (fun _ => 0) 0 26))), (a_3, .inr (1, [.ref (u_4 0)])), ((u_4 0), .inl (z 0, 26, .inl (fFill (fun _ => 0) 400 26))), (a_5, .inr (1, [.ref (u_6 0)])), ((u_6 0), .inl (z 0, 26, .inl (fFill (fun _ => 0) 0 26))), (a_7, .inr (1, [.ref (u_8 0)])), ((u_8 0), .inl (z 0, 676, .inl (fFill (fun _ => 0) 400 676)))] := hD
  refine lv_aload_n hx hb dX2_init_65 rfl (lv_at hl 0 rfl) ?_
  refine lv_sipush (v := 300) hx hb dX2_init_66 (by decide) ?_
  refine va_put (D := D) (ci := 2) (v := .int 300) (ty := .int) (C := RX2) (T := TX2) (N := 6) hx hb hts in_X2_init_X2 tyX2 tyX2_ok nmX2 hown hK hP hD hS 0 rfl rfl 4 (by decide) (hts (.fieldLink RX2 29 "TypingCoach$Figures" "wishedTime" "I") (List.mem_of_getElem? (i := 11) rfl)) (fun _ h9 => h9) rfl (by decide +kernel) rfl rfl (Nat.le_of_ble_eq_true rfl) dX2_init_69 (fun H locs hP hD hS => ?_)
  have hP : va_P D vwCl [(h, .inr (2, [.ref a_1, .ref a_3, .ref a_5, .ref a_7, .int 300, .int wh])), (a_1, .inr (1, [.ref (u_2 0)])), ((u_2 0), .inl (z 0, 26, .inl (fFill (fun _ => 0) 0 26))), (a_3, .inr (1, [.ref (u_4 0)])), ((u_4 0), .inl (z 0, 26, .inl (fFill (fun _ => 0) 400 26))), (a_5, .inr (1, [.ref (u_6 0)])), ((u_6 0), .inl (z 0, 26, .inl (fFill (fun _ => 0) 0 26))), (a_7, .inr (1, [.ref (u_8 0)])), ((u_8 0), .inl (z 0, 676, .inl (fFill (fun _ => 0) 400 676)))] H := hP
  have hD : va_D A [(h, .inr (2, [.ref a_1, .ref a_3, .ref a_5, .ref a_7, .int 300, .int wh])), (a_1, .inr (1, [.ref (u_2 0)])), ((u_2 0), .inl (z 0, 26, .inl (fFill (fun _ => 0) 0 26))), (a_3, .inr (1, [.ref (u_4 0)])), ((u_4 0), .inl (z 0, 26, .inl (fFill (fun _ => 0) 400 26))), (a_5, .inr (1, [.ref (u_6 0)])), ((u_6 0), .inl (z 0, 26, .inl (fFill (fun _ => 0) 0 26))), (a_7, .inr (1, [.ref (u_8 0)])), ((u_8 0), .inl (z 0, 676, .inl (fFill (fun _ => 0) 400 676)))] := hD
  refine lv_aload_n hx hb dX2_init_72 rfl (lv_at hl 0 rfl) ?_
  refine lv_sipush (v := 1000) hx hb dX2_init_73 (by decide) ?_
  refine va_put (D := D) (ci := 2) (v := .int 1000) (ty := .int) (C := RX2) (T := TX2) (N := 6) hx hb hts in_X2_init_X2 tyX2 tyX2_ok nmX2 hown hK hP hD hS 0 rfl rfl 5 (by decide) (hts (.fieldLink RX2 33 "TypingCoach$Figures" "wishedShare" "I") (List.mem_of_getElem? (i := 12) rfl)) (fun _ h9 => h9) rfl (by decide +kernel) rfl rfl (Nat.le_of_ble_eq_true rfl) dX2_init_76 (fun H locs hP hD hS => ?_)
  have hP : va_P D vwCl [(h, .inr (2, [.ref a_1, .ref a_3, .ref a_5, .ref a_7, .int 300, .int 1000])), (a_1, .inr (1, [.ref (u_2 0)])), ((u_2 0), .inl (z 0, 26, .inl (fFill (fun _ => 0) 0 26))), (a_3, .inr (1, [.ref (u_4 0)])), ((u_4 0), .inl (z 0, 26, .inl (fFill (fun _ => 0) 400 26))), (a_5, .inr (1, [.ref (u_6 0)])), ((u_6 0), .inl (z 0, 26, .inl (fFill (fun _ => 0) 0 26))), (a_7, .inr (1, [.ref (u_8 0)])), ((u_8 0), .inl (z 0, 676, .inl (fFill (fun _ => 0) 400 676)))] H := hP
  have hD : va_D A [(h, .inr (2, [.ref a_1, .ref a_3, .ref a_5, .ref a_7, .int 300, .int 1000])), (a_1, .inr (1, [.ref (u_2 0)])), ((u_2 0), .inl (z 0, 26, .inl (fFill (fun _ => 0) 0 26))), (a_3, .inr (1, [.ref (u_4 0)])), ((u_4 0), .inl (z 0, 26, .inl (fFill (fun _ => 0) 400 26))), (a_5, .inr (1, [.ref (u_6 0)])), ((u_6 0), .inl (z 0, 26, .inl (fFill (fun _ => 0) 0 26))), (a_7, .inr (1, [.ref (u_8 0)])), ((u_8 0), .inl (z 0, 676, .inl (fFill (fun _ => 0) 400 676)))] := hD
  have hP := sub_map (ws' := [(h, .inr (2, [.ref a_1, .ref a_3, .ref a_5, .ref a_7, .int 300, .int 1000])), (a_1, .inr (1, [.ref (u_2 0)])), ((u_2 0), .inl (z 0, 26, .inl (fFill (fun _ => 0) 0 26))), (a_3, .inr (1, [.ref (u_4 0)])), ((u_4 0), .inl (z 0, 26, .inl (fFill (fun _ => 0) 400 26))), (a_5, .inr (1, [.ref (u_6 0)])), ((u_6 0), .inl (z 0, 26, .inl (fFill (fun _ => 0) 0 26))), (a_7, .inr (1, [.ref (u_8 0)])), ((u_8 0), .inl (z 0, 676, .inl (fFill (fun _ => 0) 400 676)))]) hP [0, 1, 2, 3, 4, 5, 6, 7, 8] rfl
  have hD := hD.sub (ws' := [(h, .inr (2, [.ref a_1, .ref a_3, .ref a_5, .ref a_7, .int 300, .int 1000])), (a_1, .inr (1, [.ref (u_2 0)])), ((u_2 0), .inl (z 0, 26, .inl (fFill (fun _ => 0) 0 26))), (a_3, .inr (1, [.ref (u_4 0)])), ((u_4 0), .inl (z 0, 26, .inl (fFill (fun _ => 0) 400 26))), (a_5, .inr (1, [.ref (u_6 0)])), ((u_6 0), .inl (z 0, 26, .inl (fFill (fun _ => 0) 0 26))), (a_7, .inr (1, [.ref (u_8 0)])), ((u_8 0), .inl (z 0, 676, .inl (fFill (fun _ => 0) 400 676)))]) [0, 1, 2, 3, 4, 5, 6, 7, 8] (by decide) rfl
  exact qt_v (fun k => ([a_1, (u_2 0), a_3, (u_4 0), a_5, (u_6 0), a_7, (u_8 0)] : List Nat).getD k 0) hx hb hr hlocks hP hD hS dX2_init_79 rfl (rfl) trivial (Nat.le_refl _) (Nat.le_refl _)
set_option maxRecDepth 20000 in
theorem in_X3_init_X1 : ∀ w ∈ wsX10, w ∈ wsX3_init := mem_r _ [27] (by decide +kernel)
set_option maxRecDepth 20000 in
theorem in_X3_init_X3 : ∀ w ∈ wsX30, w ∈ wsX3_init := mem_r _ [28, 29, 30, 31, 32, 33] (by decide +kernel)
theorem hd_X3_init : yX3_init.cls ≠ "java/lang/invoke/MethodHandle" ∧ yX3_init.cls ≠ "java/lang/invoke/VarHandle" ∧ (parseMethodDescriptor yX3_init.desc).map (fun d => d.parameters.length) = some 0 := by decide +kernel
set_option maxHeartbeats 4000000 in
set_option maxRecDepth 100000 in
theorem c_X3_init (l : Launch) (D : va_G) (z : Nat → ClassId) (q : Nat → Nat) (h : Nat) (zz : Int32) (po : Int32) (me : Int32) (ml : Int32) (sz : Nat)  : Met l yX3_init wsX3_init ({ frames := 2, cells := 4, slots := 82, locals := 62 } : Room) (va_Pc [.ref h] (WP D z q [(h, .inr (3, [.null, .null, .int zz, .int po, .int me, .int ml]))] sz)) (QT D (va_A [(h, .inr (3, [.null, .null, .int zz, .int po, .int me, .int ml]))] sz) (fun _ => none) (fun _ => True) (fun u : Nat → Nat => [(h, .inr (3, [.ref (u 0), .ref (u 2), .int 0, .int 0, .int 0, .int 0])), ((u 0), .inr (1, [.ref (u 1)])), ((u 1), .inl (z 0, 40, .inl (fFill (fun _ => 0) (-1) 40))), ((u 2), .inr (1, [.ref (u 3)])), ((u 3), .inl (z 0, 40, .inl (fFill (fun _ => 0) (-1) 40)))])) 4 82 (va_A [(h, .inr (3, [.null, .null, .int zz, .int po, .int me, .int ml]))] sz) := by
  refine WR_mk (Qc := fun A => QT D A (fun _ => none) (fun _ => True) (fun u : Nat → Nat => [(h, .inr (3, [.ref (u 0), .ref (u 2), .int 0, .int 0, .int 0, .int 0])), ((u 0), .inr (1, [.ref (u 1)])), ((u 1), .inl (z 0, 40, .inl (fFill (fun _ => 0) (-1) 40))), ((u 2), .inr (1, [.ref (u 3)])), ((u 3), .inl (z 0, 40, .inl (fFill (fun _ => 0) (-1) 40)))])) (mc := 4) (ms := 82) (cc := cX3_init) (maxL := 1) (ret := none) (by decide) rfl (Nat.le_of_ble_eq_true rfl) ?_
  intro p e s m below meth c A hx hb hr hml hts hown hlocks hin0 H hP hD hE hS hA ls hl
  have hK := hE.1
  have hown : s.vm.findClass RX3 = some m.cls := hown
  have hin : meth.name = "<init>" := hin0 rfl
  have hl : lv_has ls 1 [(0, .ref h)] := hl
  refine lv_aload_n hx hb dX3_init_0 rfl (lv_at hl 0 rfl) ?_
  refine W.objInit hx hb hown (hts (.methodLink RX3 3 objectInit) (List.mem_of_getElem? (i := 1) rfl)) (hts (.instanceMethod objectInit) (List.mem_of_getElem? (i := 2) rfl)) (hts (.code objectInit ⟨#[0xb1]⟩ 1 none) (List.mem_of_getElem? (i := 3) rfl)) rfl (by rw [hml]; exact hl.1) rfl dX3_init_1 (Nat.le_of_ble_eq_true rfl) (Nat.le_of_ble_eq_true rfl) ?_
  refine W.eq (g2 := F0 m 4 ls []) rfl ?_
  refine lv_aload_n hx hb dX3_init_4 rfl (lv_at hl 0 rfl) ?_
  refine va_new (ci := 1) (fs := [.null]) (C := RX1) (T := TX1) (N := 1) hx hb hts in_X3_init_X1 tyX1 tyX1_ok hown (hts (.classLink RX3 9 RX1) (List.mem_of_getElem? (i := 4) rfl)) (hts (.instantiable RX1 1) (List.mem_of_getElem? (i := 5) rfl)) (hts (.initialized RX1) (List.mem_of_getElem? (i := 6) rfl)) hK hP hD hS hA rfl (fun j hj => by rcases (show j = 0 by omega) with rfl <;> rfl) (Nat.le_of_ble_eq_true rfl) (Nat.le_of_ble_eq_true rfl) dX3_init_5 (fun a_1 H hP hD hS => ?_)
  have hP : va_P D vwCl [(h, .inr (3, [.null, .null, .int zz, .int po, .int me, .int ml])), (a_1, .inr (1, [.null]))] H := hP
  have hD : va_D A [(h, .inr (3, [.null, .null, .int zz, .int po, .int me, .int ml])), (a_1, .inr (1, [.null]))] := hD
  refine W.widen (k := 1) (n := 1) (Nat.le_refl _) (Nat.le_refl _) ?_
  refine lv_dup hx hb dX3_init_8 rfl ?_
  refine lv_bipush (v := 40) hx hb dX3_init_9 (by decide) ?_
  refine lv_iconst (v := (-1)) hx hb dX3_init_11 (by decide) ?_
  refine qtI (As := [.int 40, .int (-1)]) (rest := [.ref a_1, .ref h]) (wr := [(h, .inr (3, [.null, .null, .int zz, .int po, .int me, .int ml]))]) ⟨hx, hb, hml, hown, hts⟩ (c_X1_init l D z q a_1 40 (-1) 40 H.size rfl (Nat.le_of_ble_eq_true rfl)) (cwI 2 hts gX3_init_X1_init rfl rfl rfl (hts (.initialized RX1) (List.mem_of_getElem? (i := 6) rfl)) (hts (.methodLink RX3 11 yX1_init) (List.mem_of_getElem? (i := 13) rfl)) (hts (.instanceMethod yX1_init) (List.mem_of_getElem? (i := 14) rfl)) rfl hd_X1_init ⟨Nat.le_of_ble_eq_true rfl, Nat.le_of_ble_eq_true rfl⟩) hE hS hA hP hD [1] [0] rfl rfl rfl rfl (by decide) rfl hl.1 rfl (Nat.le_of_ble_eq_true rfl) dX3_init_12 ⟨(Nat.le_of_ble_eq_true rfl), (Nat.le_of_ble_eq_true rfl)⟩ (fun u_2 H locs _ hP hD hS => ?_)
  have hP : va_P D vwCl [(h, .inr (3, [.null, .null, .int zz, .int po, .int me, .int ml])), (a_1, .inr (1, [.ref (u_2 0)])), ((u_2 0), .inl (z 0, 40, .inl (fFill (fun _ => 0) (-1) 40)))] H := hP
  have hD : va_D A [(h, .inr (3, [.null, .null, .int zz, .int po, .int me, .int ml])), (a_1, .inr (1, [.ref (u_2 0)])), ((u_2 0), .inl (z 0, 40, .inl (fFill (fun _ => 0) (-1) 40)))] := hD
  refine W.widen (k := 2) (n := 41) (Nat.le_refl _) (Nat.le_refl _) ?_
  refine va_putF (D := D) (ci := 3) (v := .ref a_1) (ty := .object "TypingCoach$Cells") (C := RX3) (T := TX3) (N := 6) hx hb hts in_X3_init_X3 tyX3 tyX3_ok nmX3 hown hK hP hD hS 0 rfl rfl 0 (by decide) (hts (.fieldLink RX3 14 "TypingCoach$Lesson" "letters" "LTypingCoach$Cells;") (List.mem_of_getElem? (i := 7) rfl)) (fun _ h9 => h9) rfl hin rfl (by decide +kernel) rfl rfl (Nat.le_of_ble_eq_true rfl) dX3_init_15 (fun H locs hP hD hS => ?_)
  have hP : va_P D vwCl [(h, .inr (3, [.ref a_1, .null, .int zz, .int po, .int me, .int ml])), (a_1, .inr (1, [.ref (u_2 0)])), ((u_2 0), .inl (z 0, 40, .inl (fFill (fun _ => 0) (-1) 40)))] H := hP
  have hD : va_D A [(h, .inr (3, [.ref a_1, .null, .int zz, .int po, .int me, .int ml])), (a_1, .inr (1, [.ref (u_2 0)])), ((u_2 0), .inl (z 0, 40, .inl (fFill (fun _ => 0) (-1) 40)))] := hD
  refine lv_aload_n hx hb dX3_init_18 rfl (lv_at hl 0 rfl) ?_
  refine va_new (ci := 1) (fs := [.null]) (C := RX1) (T := TX1) (N := 1) hx hb hts in_X3_init_X1 tyX1 tyX1_ok hown (hts (.classLink RX3 9 RX1) (List.mem_of_getElem? (i := 4) rfl)) (hts (.instantiable RX1 1) (List.mem_of_getElem? (i := 5) rfl)) (hts (.initialized RX1) (List.mem_of_getElem? (i := 6) rfl)) hK hP hD hS hA rfl (fun j hj => by rcases (show j = 0 by omega) with rfl <;> rfl) (Nat.le_of_ble_eq_true rfl) (Nat.le_of_ble_eq_true rfl) dX3_init_19 (fun a_3 H hP hD hS => ?_)
  have hP : va_P D vwCl [(h, .inr (3, [.ref a_1, .null, .int zz, .int po, .int me, .int ml])), (a_1, .inr (1, [.ref (u_2 0)])), ((u_2 0), .inl (z 0, 40, .inl (fFill (fun _ => 0) (-1) 40))), (a_3, .inr (1, [.null]))] H := hP
  have hD : va_D A [(h, .inr (3, [.ref a_1, .null, .int zz, .int po, .int me, .int ml])), (a_1, .inr (1, [.ref (u_2 0)])), ((u_2 0), .inl (z 0, 40, .inl (fFill (fun _ => 0) (-1) 40))), (a_3, .inr (1, [.null]))] := hD
  refine W.widen (k := 3) (n := 42) (Nat.le_refl _) (Nat.le_refl _) ?_
  refine lv_dup hx hb dX3_init_22 rfl ?_
  refine lv_bipush (v := 40) hx hb dX3_init_23 (by decide) ?_
  refine lv_iconst (v := (-1)) hx hb dX3_init_25 (by decide) ?_
  refine qtI (As := [.int 40, .int (-1)]) (rest := [.ref a_3, .ref h]) (wr := [(h, .inr (3, [.ref a_1, .null, .int zz, .int po, .int me, .int ml])), (a_1, .inr (1, [.ref (u_2 0)])), ((u_2 0), .inl (z 0, 40, .inl (fFill (fun _ => 0) (-1) 40)))]) ⟨hx, hb, hml, hown, hts⟩ (c_X1_init l D z q a_3 40 (-1) 40 H.size rfl (Nat.le_of_ble_eq_true rfl)) (cwI 2 hts gX3_init_X1_init rfl rfl rfl (hts (.initialized RX1) (List.mem_of_getElem? (i := 6) rfl)) (hts (.methodLink RX3 11 yX1_init) (List.mem_of_getElem? (i := 13) rfl)) (hts (.instanceMethod yX1_init) (List.mem_of_getElem? (i := 14) rfl)) rfl hd_X1_init ⟨Nat.le_of_ble_eq_true rfl, Nat.le_of_ble_eq_true rfl⟩) hE hS hA hP hD [3] [0, 1, 2] rfl rfl rfl rfl (by decide) rfl hl.1 rfl (Nat.le_of_ble_eq_true rfl) dX3_init_26 ⟨(Nat.le_of_ble_eq_true rfl), (Nat.le_of_ble_eq_true rfl)⟩ (fun u_4 H locs _ hP hD hS => ?_)
  have hP : va_P D vwCl [(h, .inr (3, [.ref a_1, .null, .int zz, .int po, .int me, .int ml])), (a_1, .inr (1, [.ref (u_2 0)])), ((u_2 0), .inl (z 0, 40, .inl (fFill (fun _ => 0) (-1) 40))), (a_3, .inr (1, [.ref (u_4 0)])), ((u_4 0), .inl (z 0, 40, .inl (fFill (fun _ => 0) (-1) 40)))] H := hP
  have hD : va_D A [(h, .inr (3, [.ref a_1, .null, .int zz, .int po, .int me, .int ml])), (a_1, .inr (1, [.ref (u_2 0)])), ((u_2 0), .inl (z 0, 40, .inl (fFill (fun _ => 0) (-1) 40))), (a_3, .inr (1, [.ref (u_4 0)])), ((u_4 0), .inl (z 0, 40, .inl (fFill (fun _ => 0) (-1) 40)))] := hD
  refine W.widen (k := 4) (n := 82) (Nat.le_refl _) (Nat.le_refl _) ?_
  refine va_putF (D := D) (ci := 3) (v := .ref a_3) (ty := .object "TypingCoach$Cells") (C := RX3) (T := TX3) (N := 6) hx hb hts in_X3_init_X3 tyX3 tyX3_ok nmX3 hown hK hP hD hS 0 rfl rfl 1 (by decide) (hts (.fieldLink RX3 20 "TypingCoach$Lesson" "typed" "LTypingCoach$Cells;") (List.mem_of_getElem? (i := 8) rfl)) (fun _ h9 => h9) rfl hin rfl (by decide +kernel) rfl rfl (Nat.le_of_ble_eq_true rfl) dX3_init_29 (fun H locs hP hD hS => ?_)
  have hP : va_P D vwCl [(h, .inr (3, [.ref a_1, .ref a_3, .int zz, .int po, .int me, .int ml])), (a_1, .inr (1, [.ref (u_2 0)])), ((u_2 0), .inl (z 0, 40, .inl (fFill (fun _ => 0) (-1) 40))), (a_3, .inr (1, [.ref (u_4 0)])), ((u_4 0), .inl (z 0, 40, .inl (fFill (fun _ => 0) (-1) 40)))] H := hP
  have hD : va_D A [(h, .inr (3, [.ref a_1, .ref a_3, .int zz, .int po, .int me, .int ml])), (a_1, .inr (1, [.ref (u_2 0)])), ((u_2 0), .inl (z 0, 40, .inl (fFill (fun _ => 0) (-1) 40))), (a_3, .inr (1, [.ref (u_4 0)])), ((u_4 0), .inl (z 0, 40, .inl (fFill (fun _ => 0) (-1) 40)))] := hD
  refine lv_aload_n hx hb dX3_init_32 rfl (lv_at hl 0 rfl) ?_
  refine lv_iconst (v := 0) hx hb dX3_init_33 (by decide) ?_
  refine va_put (D := D) (ci := 3) (v := .int 0) (ty := .int) (C := RX3) (T := TX3) (N := 6) hx hb hts in_X3_init_X3 tyX3 tyX3_ok nmX3 hown hK hP hD hS 0 rfl rfl 2 (by decide) (hts (.fieldLink RX3 23 "TypingCoach$Lesson" "size" "I") (List.mem_of_getElem? (i := 9) rfl)) (fun _ h9 => h9) rfl (by decide +kernel) rfl rfl (Nat.le_of_ble_eq_true rfl) dX3_init_34 (fun H locs hP hD hS => ?_)
  have hP : va_P D vwCl [(h, .inr (3, [.ref a_1, .ref a_3, .int 0, .int po, .int me, .int ml])), (a_1, .inr (1, [.ref (u_2 0)])), ((u_2 0), .inl (z 0, 40, .inl (fFill (fun _ => 0) (-1) 40))), (a_3, .inr (1, [.ref (u_4 0)])), ((u_4 0), .inl (z 0, 40, .inl (fFill (fun _ => 0) (-1) 40)))] H := hP
  have hD : va_D A [(h, .inr (3, [.ref a_1, .ref a_3, .int 0, .int po, .int me, .int ml])), (a_1, .inr (1, [.ref (u_2 0)])), ((u_2 0), .inl (z 0, 40, .inl (fFill (fun _ => 0) (-1) 40))), (a_3, .inr (1, [.ref (u_4 0)])), ((u_4 0), .inl (z 0, 40, .inl (fFill (fun _ => 0) (-1) 40)))] := hD
  refine lv_aload_n hx hb dX3_init_37 rfl (lv_at hl 0 rfl) ?_
  refine lv_iconst (v := 0) hx hb dX3_init_38 (by decide) ?_
  refine va_put (D := D) (ci := 3) (v := .int 0) (ty := .int) (C := RX3) (T := TX3) (N := 6) hx hb hts in_X3_init_X3 tyX3 tyX3_ok nmX3 hown hK hP hD hS 0 rfl rfl 3 (by decide) (hts (.fieldLink RX3 27 "TypingCoach$Lesson" "position" "I") (List.mem_of_getElem? (i := 10) rfl)) (fun _ h9 => h9) rfl (by decide +kernel) rfl rfl (Nat.le_of_ble_eq_true rfl) dX3_init_39 (fun H locs hP hD hS => ?_)
  have hP : va_P D vwCl [(h, .inr (3, [.ref a_1, .ref a_3, .int 0, .int 0, .int me, .int ml])), (a_1, .inr (1, [.ref (u_2 0)])), ((u_2 0), .inl (z 0, 40, .inl (fFill (fun _ => 0) (-1) 40))), (a_3, .inr (1, [.ref (u_4 0)])), ((u_4 0), .inl (z 0, 40, .inl (fFill (fun _ => 0) (-1) 40)))] H := hP
  have hD : va_D A [(h, .inr (3, [.ref a_1, .ref a_3, .int 0, .int 0, .int me, .int ml])), (a_1, .inr (1, [.ref (u_2 0)])), ((u_2 0), .inl (z 0, 40, .inl (fFill (fun _ => 0) (-1) 40))), (a_3, .inr (1, [.ref (u_4 0)])), ((u_4 0), .inl (z 0, 40, .inl (fFill (fun _ => 0) (-1) 40)))] := hD
  refine lv_aload_n hx hb dX3_init_42 rfl (lv_at hl 0 rfl) ?_
  refine lv_iconst (v := 0) hx hb dX3_init_43 (by decide) ?_
  refine va_put (D := D) (ci := 3) (v := .int 0) (ty := .int) (C := RX3) (T := TX3) (N := 6) hx hb hts in_X3_init_X3 tyX3 tyX3_ok nmX3 hown hK hP hD hS 0 rfl rfl 4 (by decide) (hts (.fieldLink RX3 30 "TypingCoach$Lesson" "mendedStrokes" "I") (List.mem_of_getElem? (i := 11) rfl)) (fun _ h9 => h9) rfl (by decide +kernel) rfl rfl (Nat.le_of_ble_eq_true rfl) dX3_init_44 (fun H locs hP hD hS => ?_)
  have hP : va_P D vwCl [(h, .inr (3, [.ref a_1, .ref a_3, .int 0, .int 0, .int 0, .int ml])), (a_1, .inr (1, [.ref (u_2 0)])), ((u_2 0), .inl (z 0, 40, .inl (fFill (fun _ => 0) (-1) 40))), (a_3, .inr (1, [.ref (u_4 0)])), ((u_4 0), .inl (z 0, 40, .inl (fFill (fun _ => 0) (-1) 40)))] H := hP
  have hD : va_D A [(h, .inr (3, [.ref a_1, .ref a_3, .int 0, .int 0, .int 0, .int ml])), (a_1, .inr (1, [.ref (u_2 0)])), ((u_2 0), .inl (z 0, 40, .inl (fFill (fun _ => 0) (-1) 40))), (a_3, .inr (1, [.ref (u_4 0)])), ((u_4 0), .inl (z 0, 40, .inl (fFill (fun _ => 0) (-1) 40)))] := hD
  refine lv_aload_n hx hb dX3_init_47 rfl (lv_at hl 0 rfl) ?_
  refine lv_iconst (v := 0) hx hb dX3_init_48 (by decide) ?_
  refine va_put (D := D) (ci := 3) (v := .int 0) (ty := .int) (C := RX3) (T := TX3) (N := 6) hx hb hts in_X3_init_X3 tyX3 tyX3_ok nmX3 hown hK hP hD hS 0 rfl rfl 5 (by decide) (hts (.fieldLink RX3 33 "TypingCoach$Lesson" "millisInAll" "I") (List.mem_of_getElem? (i := 12) rfl)) (fun _ h9 => h9) rfl (by decide +kernel) rfl rfl (Nat.le_of_ble_eq_true rfl) dX3_init_49 (fun H locs hP hD hS => ?_)
  have hP : va_P D vwCl [(h, .inr (3, [.ref a_1, .ref a_3, .int 0, .int 0, .int 0, .int 0])), (a_1, .inr (1, [.ref (u_2 0)])), ((u_2 0), .inl (z 0, 40, .inl (fFill (fun _ => 0) (-1) 40))), (a_3, .inr (1, [.ref (u_4 0)])), ((u_4 0), .inl (z 0, 40, .inl (fFill (fun _ => 0) (-1) 40)))] H := hP
  have hD : va_D A [(h, .inr (3, [.ref a_1, .ref a_3, .int 0, .int 0, .int 0, .int 0])), (a_1, .inr (1, [.ref (u_2 0)])), ((u_2 0), .inl (z 0, 40, .inl (fFill (fun _ => 0) (-1) 40))), (a_3, .inr (1, [.ref (u_4 0)])), ((u_4 0), .inl (z 0, 40, .inl (fFill (fun _ => 0) (-1) 40)))] := hD
  have hP := sub_map (ws' := [(h, .inr (3, [.ref a_1, .ref a_3, .int 0, .int 0, .int 0, .int 0])), (a_1, .inr (1, [.ref (u_2 0)])), ((u_2 0), .inl (z 0, 40, .inl (fFill (fun _ => 0) (-1) 40))), (a_3, .inr (1, [.ref (u_4 0)])), ((u_4 0), .inl (z 0, 40, .inl (fFill (fun _ => 0) (-1) 40)))]) hP [0, 1, 2, 3, 4] rfl
  have hD := hD.sub (ws' := [(h, .inr (3, [.ref a_1, .ref a_3, .int 0, .int 0, .int 0, .int 0])), (a_1, .inr (1, [.ref (u_2 0)])), ((u_2 0), .inl (z 0, 40, .inl (fFill (fun _ => 0) (-1) 40))), (a_3, .inr (1, [.ref (u_4 0)])), ((u_4 0), .inl (z 0, 40, .inl (fFill (fun _ => 0) (-1) 40)))]) [0, 1, 2, 3, 4] (by decide) rfl
  exact qt_v (fun k => ([a_1, (u_2 0), a_3, (u_4 0)] : List Nat).getD k 0) hx hb hr hlocks hP hD hS dX3_init_52 rfl (rfl) trivial (Nat.le_refl _) (Nat.le_refl _)
set_option maxRecDepth 20000 in
theorem in_X5_init_X1 : ∀ w ∈ wsX10, w ∈ wsX5_init := mem_r _ [23] (by decide +kernel)
set_option maxRecDepth 20000 in
theorem in_X5_init_X5 : ∀ w ∈ wsX50, w ∈ wsX5_init := mem_r _ [24, 25] (by decide +kernel)
theorem hd_X5_init : yX5_init.cls ≠ "java/lang/invoke/MethodHandle" ∧ yX5_init.cls ≠ "java/lang/invoke/VarHandle" ∧ (parseMethodDescriptor yX5_init.desc).map (fun d => d.parameters.length) = some 0 := by decide +kernel
set_option maxHeartbeats 4000000 in
set_option maxRecDepth 100000 in
theorem c_X5_init (l : Launch) (D : va_G) (z : Nat → ClassId) (q : Nat → Nat) (h : Nat) (zz : Int32) (sz : Nat)  : Met l yX5_init wsX5_init ({ frames := 2, cells := 2, slots := 101, locals := 62 } : Room) (va_Pc [.ref h] (WP D z q [(h, .inr (5, [.null, .int zz]))] sz)) (QT D (va_A [(h, .inr (5, [.null, .int zz]))] sz) (fun _ => none) (fun _ => True) (fun u : Nat → Nat => [(h, .inr (5, [.ref (u 0), .int 0])), ((u 0), .inr (1, [.ref (u 1)])), ((u 1), .inl (z 0, 100, .inl (fFill (fun _ => 0) 0 100)))])) 2 101 (va_A [(h, .inr (5, [.null, .int zz]))] sz) := by
  refine WR_mk (Qc := fun A => QT D A (fun _ => none) (fun _ => True) (fun u : Nat → Nat => [(h, .inr (5, [.ref (u 0), .int 0])), ((u 0), .inr (1, [.ref (u 1)])), ((u 1), .inl (z 0, 100, .inl (fFill (fun _ => 0) 0 100)))])) (mc := 2) (ms := 101) (cc := cX5_init) (maxL := 1) (ret := none) (by decide) rfl (Nat.le_of_ble_eq_true rfl) ?_
  intro p e s m below meth c A hx hb hr hml hts hown hlocks hin0 H hP hD hE hS hA ls hl
  have hK := hE.1
  have hown : s.vm.findClass RX5 = some m.cls := hown
  have hin : meth.name = "<init>" := hin0 rfl
  have hl : lv_has ls 1 [(0, .ref h)] := hl
  refine lv_aload_n hx hb dX5_init_0 rfl (lv_at hl 0 rfl) ?_
  refine W.objInit hx hb hown (hts (.methodLink RX5 3 objectInit) (List.mem_of_getElem? (i := 1) rfl)) (hts (.instanceMethod objectInit) (List.mem_of_getElem? (i := 2) rfl)) (hts (.code objectInit ⟨#[0xb1]⟩ 1 none) (List.mem_of_getElem? (i := 3) rfl)) rfl (by rw [hml]; exact hl.1) rfl dX5_init_1 (Nat.le_of_ble_eq_true rfl) (Nat.le_of_ble_eq_true rfl) ?_
  refine W.eq (g2 := F0 m 4 ls []) rfl ?_
  refine lv_aload_n hx hb dX5_init_4 rfl (lv_at hl 0 rfl) ?_
  refine va_new (ci := 1) (fs := [.null]) (C := RX1) (T := TX1) (N := 1) hx hb hts in_X5_init_X1 tyX1 tyX1_ok hown (hts (.classLink RX5 9 RX1) (List.mem_of_getElem? (i := 4) rfl)) (hts (.instantiable RX1 1) (List.mem_of_getElem? (i := 5) rfl)) (hts (.initialized RX1) (List.mem_of_getElem? (i := 6) rfl)) hK hP hD hS hA rfl (fun j hj => by rcases (show j = 0 by omega) with rfl <;> rfl) (Nat.le_of_ble_eq_true rfl) (Nat.le_of_ble_eq_true rfl) dX5_init_5 (fun a_1 H hP hD hS => ?_)
  have hP : va_P D vwCl [(h, .inr (5, [.null, .int zz])), (a_1, .inr (1, [.null]))] H := hP
  have hD : va_D A [(h, .inr (5, [.null, .int zz])), (a_1, .inr (1, [.null]))] := hD
  refine W.widen (k := 1) (n := 1) (Nat.le_refl _) (Nat.le_refl _) ?_
  refine lv_dup hx hb dX5_init_8 rfl ?_
  refine lv_bipush (v := 100) hx hb dX5_init_9 (by decide) ?_
  refine lv_iconst (v := 0) hx hb dX5_init_11 (by decide) ?_
  refine qtI (As := [.int 100, .int 0]) (rest := [.ref a_1, .ref h]) (wr := [(h, .inr (5, [.null, .int zz]))]) ⟨hx, hb, hml, hown, hts⟩ (c_X1_init l D z q a_1 100 0 100 H.size rfl (Nat.le_of_ble_eq_true rfl)) (cwI 2 hts gX5_init_X1_init rfl rfl rfl (hts (.initialized RX1) (List.mem_of_getElem? (i := 6) rfl)) (hts (.methodLink RX5 11 yX1_init) (List.mem_of_getElem? (i := 9) rfl)) (hts (.instanceMethod yX1_init) (List.mem_of_getElem? (i := 10) rfl)) rfl hd_X1_init ⟨Nat.le_of_ble_eq_true rfl, Nat.le_of_ble_eq_true rfl⟩) hE hS hA hP hD [1] [0] rfl rfl rfl rfl (by decide) rfl hl.1 rfl (Nat.le_of_ble_eq_true rfl) dX5_init_12 ⟨(Nat.le_of_ble_eq_true rfl), (Nat.le_of_ble_eq_true rfl)⟩ (fun u_2 H locs _ hP hD hS => ?_)
  have hP : va_P D vwCl [(h, .inr (5, [.null, .int zz])), (a_1, .inr (1, [.ref (u_2 0)])), ((u_2 0), .inl (z 0, 100, .inl (fFill (fun _ => 0) 0 100)))] H := hP
  have hD : va_D A [(h, .inr (5, [.null, .int zz])), (a_1, .inr (1, [.ref (u_2 0)])), ((u_2 0), .inl (z 0, 100, .inl (fFill (fun _ => 0) 0 100)))] := hD
  refine W.widen (k := 2) (n := 101) (Nat.le_refl _) (Nat.le_refl _) ?_
  refine va_putF (D := D) (ci := 5) (v := .ref a_1) (ty := .object "TypingCoach$Cells") (C := RX5) (T := TX5) (N := 2) hx hb hts in_X5_init_X5 tyX5 tyX5_ok nmX5 hown hK hP hD hS 0 rfl rfl 0 (by decide) (hts (.fieldLink RX5 14 "TypingCoach$Speeds" "kept" "LTypingCoach$Cells;") (List.mem_of_getElem? (i := 7) rfl)) (fun _ h9 => h9) rfl hin rfl (by decide +kernel) rfl rfl (Nat.le_of_ble_eq_true rfl) dX5_init_15 (fun H locs hP hD hS => ?_)
  have hP : va_P D vwCl [(h, .inr (5, [.ref a_1, .int zz])), (a_1, .inr (1, [.ref (u_2 0)])), ((u_2 0), .inl (z 0, 100, .inl (fFill (fun _ => 0) 0 100)))] H := hP
  have hD : va_D A [(h, .inr (5, [.ref a_1, .int zz])), (a_1, .inr (1, [.ref (u_2 0)])), ((u_2 0), .inl (z 0, 100, .inl (fFill (fun _ => 0) 0 100)))] := hD
  refine lv_aload_n hx hb dX5_init_18 rfl (lv_at hl 0 rfl) ?_
  refine lv_iconst (v := 0) hx hb dX5_init_19 (by decide) ?_
  refine va_put (D := D) (ci := 5) (v := .int 0) (ty := .int) (C := RX5) (T := TX5) (N := 2) hx hb hts in_X5_init_X5 tyX5 tyX5_ok nmX5 hown hK hP hD hS 0 rfl rfl 1 (by decide) (hts (.fieldLink RX5 20 "TypingCoach$Speeds" "size" "I") (List.mem_of_getElem? (i := 8) rfl)) (fun _ h9 => h9) rfl (by decide +kernel) rfl rfl (Nat.le_of_ble_eq_true rfl) dX5_init_20 (fun H locs hP hD hS => ?_)
  have hP : va_P D vwCl [(h, .inr (5, [.ref a_1, .int 0])), (a_1, .inr (1, [.ref (u_2 0)])), ((u_2 0), .inl (z 0, 100, .inl (fFill (fun _ => 0) 0 100)))] H := hP
  have hD : va_D A [(h, .inr (5, [.ref a_1, .int 0])), (a_1, .inr (1, [.ref (u_2 0)])), ((u_2 0), .inl (z 0, 100, .inl (fFill (fun _ => 0) 0 100)))] := hD
  have hP := sub_map (ws' := [(h, .inr (5, [.ref a_1, .int 0])), (a_1, .inr (1, [.ref (u_2 0)])), ((u_2 0), .inl (z 0, 100, .inl (fFill (fun _ => 0) 0 100)))]) hP [0, 1, 2] rfl
  have hD := hD.sub (ws' := [(h, .inr (5, [.ref a_1, .int 0])), (a_1, .inr (1, [.ref (u_2 0)])), ((u_2 0), .inl (z 0, 100, .inl (fFill (fun _ => 0) 0 100)))]) [0, 1, 2] (by decide) rfl
  exact qt_v (fun k => ([a_1, (u_2 0)] : List Nat).getD k 0) hx hb hr hlocks hP hD hS dX5_init_23 rfl (rfl) trivial (Nat.le_refl _) (Nat.le_refl _)
set_option maxRecDepth 20000 in
theorem in_X4_init_X4 : ∀ w ∈ wsX40, w ∈ wsX4_init := mem_r _ [7, 8] (by decide +kernel)
theorem hd_X4_init : yX4_init.cls ≠ "java/lang/invoke/MethodHandle" ∧ yX4_init.cls ≠ "java/lang/invoke/VarHandle" ∧ (parseMethodDescriptor yX4_init.desc).map (fun d => d.parameters.length) = some 1 := by decide +kernel
set_option maxHeartbeats 4000000 in
set_option maxRecDepth 100000 in
theorem c_X4_init (l : Launch) (D : va_G) (z : Nat → ClassId) (q : Nat → Nat) (h : Nat) (g : Nat) (sz : Nat)  : Met l yX4_init wsX4_init ({ frames := 1, cells := 1, slots := 26, locals := 30 } : Room) (va_Pc [.ref h, .ref g] (WP D z q [(h, .inr (4, [.null, .null]))] sz)) (QT D (va_A [(h, .inr (4, [.null, .null]))] sz) (fun _ => none) (fun _ => True) (fun u : Nat → Nat => [(h, .inr (4, [.ref (u 0), .ref g])), ((u 0), .inl (z 1, 26, .inl (lIni 26)))])) 1 26 (va_A [(h, .inr (4, [.null, .null]))] sz) := by
  refine WR_mk (Qc := fun A => QT D A (fun _ => none) (fun _ => True) (fun u : Nat → Nat => [(h, .inr (4, [.ref (u 0), .ref g])), ((u 0), .inl (z 1, 26, .inl (lIni 26)))])) (mc := 1) (ms := 26) (cc := cX4_init) (maxL := 3) (ret := none) (by decide) rfl (Nat.le_of_ble_eq_true rfl) ?_
  intro p e s m below meth c A hx hb hr hml hts hown hlocks hin0 H hP hD hE hS hA ls hl
  have hK := hE.1
  have hown : s.vm.findClass RX4 = some m.cls := hown
  have hin : meth.name = "<init>" := hin0 rfl
  have hl : lv_has ls 3 [(0, .ref h), (1, .ref g)] := hl
  refine lv_aload_n hx hb dX4_init_0 rfl (lv_at hl 0 rfl) ?_
  refine W.objInit hx hb hown (hts (.methodLink RX4 3 objectInit) (List.mem_of_getElem? (i := 1) rfl)) (hts (.instanceMethod objectInit) (List.mem_of_getElem? (i := 2) rfl)) (hts (.code objectInit ⟨#[0xb1]⟩ 1 none) (List.mem_of_getElem? (i := 3) rfl)) rfl (by rw [hml]; exact hl.1) rfl dX4_init_1 (Nat.le_of_ble_eq_true rfl) (Nat.le_of_ble_eq_true rfl) ?_
  refine W.eq (g2 := F0 m 4 ls []) rfl ?_
  refine lv_aload_n hx hb dX4_init_4 rfl (lv_at hl 0 rfl) ?_
  refine lv_bipush (v := 26) hx hb dX4_init_5 (by decide) ?_
  refine newZ (N' := 26) hx hb (hts (.arrayClass .boolean) (List.mem_of_getElem? (i := 4) rfl)) hK hP hD hS hA (by decide) rfl (Nat.le_of_ble_eq_true rfl) (Nat.le_of_ble_eq_true rfl) (Nat.le_of_ble_eq_true rfl) dX4_init_7 (fun a_1 H hP hD hS => ?_)
  have hP : va_P D vwCl [(h, .inr (4, [.null, .null])), (a_1, .inl (z 1, 26, .inl (fun _ => 0)))] H := hP
  have hD : va_D A [(h, .inr (4, [.null, .null])), (a_1, .inl (z 1, 26, .inl (fun _ => 0)))] := hD
  refine W.widen (k := 1) (n := 26) (Nat.le_refl _) (Nat.le_refl _) ?_
  refine va_putF (D := D) (ci := 4) (v := .ref a_1) (ty := .array .boolean) (C := RX4) (T := TX4) (N := 2) hx hb hts in_X4_init_X4 tyX4 tyX4_ok nmX4 hown hK hP hD hS 0 rfl rfl 0 (by decide) (hts (.fieldLink RX4 9 "TypingCoach$LettersIn" "in" "[Z") (List.mem_of_getElem? (i := 5) rfl)) (fun _ h9 => h9) rfl hin rfl (by decide +kernel) rfl rfl (Nat.le_of_ble_eq_true rfl) dX4_init_9 (fun H locs hP hD hS => ?_)
  have hP : va_P D vwCl [(h, .inr (4, [.ref a_1, .null])), (a_1, .inl (z 1, 26, .inl (fun _ => 0)))] H := hP
  have hD : va_D A [(h, .inr (4, [.ref a_1, .null])), (a_1, .inl (z 1, 26, .inl (fun _ => 0)))] := hD
  refine lv_aload_n hx hb dX4_init_12 rfl (lv_at hl 0 rfl) ?_
  refine lv_aload_n hx hb dX4_init_13 rfl (lv_at hl 1 rfl) ?_
  refine va_putF (D := D) (ci := 4) (v := .ref g) (ty := .object "TypingCoach$Figures") (C := RX4) (T := TX4) (N := 2) hx hb hts in_X4_init_X4 tyX4 tyX4_ok nmX4 hown hK hP hD hS 0 rfl rfl 1 (by decide) (hts (.fieldLink RX4 15 "TypingCoach$LettersIn" "figures" "LTypingCoach$Figures;") (List.mem_of_getElem? (i := 6) rfl)) (fun _ h9 => h9) rfl hin rfl (by decide +kernel) rfl rfl (Nat.le_of_ble_eq_true rfl) dX4_init_14 (fun H locs hP hD hS => ?_)
  have hP : va_P D vwCl [(h, .inr (4, [.ref a_1, .ref g])), (a_1, .inl (z 1, 26, .inl (fun _ => 0)))] H := hP
  have hD : va_D A [(h, .inr (4, [.ref a_1, .ref g])), (a_1, .inl (z 1, 26, .inl (fun _ => 0)))] := hD
  refine lv_iconst (v := 0) hx hb dX4_init_17 (by decide) ?_
  refine lv_istore_n (lv' := [(2, .int 0), (0, .ref h), (1, .ref g)]) hx hb dX4_init_18 rfl hl (by decide) rfl (fun ls hl => ?_)
  have loop_2 : ∀ (n : Nat) (j : Nat), j ≤ 26 → 26 < j + n → ∀ (H : Heap) (locs : List Loc), va_P D vwCl [(h, .inr (4, [.ref a_1, .ref g])), (a_1, .inl (z 1, 26, .inl (lIni j)))] H → va_D A [(h, .inr (4, [.ref a_1, .ref g])), (a_1, .inl (z 1, 26, .inl (lIni j)))] → va_S A s.heap H locs → ∀ ls : Array Slot, lv_has ls 3 [(2, .int (nI j)), (0, .ref h), (1, .ref g)] → W p l e ({ frames := 1, cells := 1, slots := 26, locals := 30 } : Room) s m ([.ref h, .ref g] : List Value).toArray below meth c H locs 1 26 (MQ below (QT D A (fun _ => none) (fun _ => True) (fun u : Nat → Nat => [(h, .inr (4, [.ref (u 0), .ref g])), ((u 0), .inl (z 1, 26, .inl (lIni 26)))])) ([.ref h, .ref g] : List Value).toArray s 1 26 A) (F0 m 19 ls []) := by
    intro n
    induction n with
    | zero => intro j hj hf; exact absurd hf (by omega)
    | succ n ih =>
      intro j hj hf H locs hP hD hS ls hl
      refine lv_iload_n hx hb dX4_init_19 rfl (lv_at hl 0 rfl) ?_
      refine lv_aload_n hx hb dX4_init_20 rfl (lv_at hl 1 rfl) ?_
      refine va_get (D := D) (ci := 4) (v := .ref a_1) (C := RX4) (T := TX4) (N := 2) hx hb hts in_X4_init_X4 hown hK hP 0 rfl rfl 0 (by decide) (hts (.fieldLink RX4 9 "TypingCoach$LettersIn" "in" "[Z") (List.mem_of_getElem? (i := 5) rfl)) (fun _ h9 => h9) rfl dX4_init_21 ?_
      refine va_alen (v := 26) hx hb hK hP 1 1 rfl rfl rfl dX4_init_24 ?_
      refine lv_icmp_ge (tgt := 50) hx hb dX4_init_25 (by decide) (fun c_3 => ?_) (fun c_3 => ?_)
      · have hj2 : j = 26 := lpx c_3 hj (Nat.le_of_ble_eq_true rfl) rfl
        have hP := sub_map (ws' := [(h, .inr (4, [.ref a_1, .ref g])), (a_1, .inl (z 1, 26, .inl (lIni j)))]) hP [0, 1] rfl
        have hD := hD.sub (ws' := [(h, .inr (4, [.ref a_1, .ref g])), (a_1, .inl (z 1, 26, .inl (lIni j)))]) [0, 1] (by decide) rfl
        exact qt_v (fun k => ([a_1] : List Nat).getD k 0) hx hb hr hlocks hP hD hS dX4_init_50 rfl (by rw [hj2]; rfl) trivial (Nat.le_refl _) (Nat.le_refl _)
      · have hjl : j < 26 := lpn c_3 hj (Nat.le_of_ble_eq_true rfl) rfl
        refine lv_aload_n hx hb dX4_init_28 rfl (lv_at hl 1 rfl) ?_
        refine va_get (D := D) (ci := 4) (v := .ref a_1) (C := RX4) (T := TX4) (N := 2) hx hb hts in_X4_init_X4 hown hK hP 0 rfl rfl 0 (by decide) (hts (.fieldLink RX4 9 "TypingCoach$LettersIn" "in" "[Z") (List.mem_of_getElem? (i := 5) rfl)) (fun _ h9 => h9) rfl dX4_init_29 ?_
        refine lv_iload_n hx hb dX4_init_32 rfl (lv_at hl 0 rfl) ?_
        refine lv_iload_n hx hb dX4_init_33 rfl (lv_at hl 0 rfl) ?_
        refine lv_iconst (v := 4) hx hb dX4_init_34 (by decide) ?_
        refine lv_icmp_ge (tgt := 42) hx hb dX4_init_35 (by decide) (fun c_4 => ?_) (fun c_4 => ?_)
        · refine lv_iconst (v := 0) hx hb dX4_init_42 (by decide) ?_
          refine va_zast hx hb hK hP hD hS 1 1 rfl rfl (vp_in_nI hjl (Nat.le_of_ble_eq_true rfl)) dX4_init_43 (fun H locs hP hD hS => ?_)
          have hP : va_P D vwCl [(h, .inr (4, [.ref a_1, .ref g])), (a_1, .inl (z 1, 26, .inl (upd (lIni j) (nI j).toNatClampNeg (vp_nar .boolean 0))))] H := hP
          have hD : va_D A [(h, .inr (4, [.ref a_1, .ref g])), (a_1, .inl (z 1, 26, .inl (upd (lIni j) (nI j).toNatClampNeg (vp_nar .boolean 0))))] := hD
          refine lv_iinc (v := nI (j + 1)) (lv' := [(2, .int (nI (j + 1))), (0, .ref h), (1, .ref g)]) hx hb dX4_init_44 hl (k := 0) rfl (nI_1 j) (by decide) rfl (fun ls hl => ?_)
          refine lv_goto (tgt := 19) hx hb dX4_init_47 (by decide) ?_
          rw [nI_clamp (i26 hjl), nz0, lIni_f (lpx4 c_4 hjl)] at hP hD
          exact ih (j + 1) (by omega) (by omega) _ _ hP hD hS ls (lv_sub hl [0, 1, 2] rfl)
        · refine lv_iconst (v := 1) hx hb dX4_init_38 (by decide) ?_
          refine lv_goto (tgt := 43) hx hb dX4_init_39 (by decide) ?_
          refine va_zast hx hb hK hP hD hS 1 1 rfl rfl (vp_in_nI hjl (Nat.le_of_ble_eq_true rfl)) dX4_init_43 (fun H locs hP hD hS => ?_)
          have hP : va_P D vwCl [(h, .inr (4, [.ref a_1, .ref g])), (a_1, .inl (z 1, 26, .inl (upd (lIni j) (nI j).toNatClampNeg (vp_nar .boolean 1))))] H := hP
          have hD : va_D A [(h, .inr (4, [.ref a_1, .ref g])), (a_1, .inl (z 1, 26, .inl (upd (lIni j) (nI j).toNatClampNeg (vp_nar .boolean 1))))] := hD
          refine lv_iinc (v := nI (j + 1)) (lv' := [(2, .int (nI (j + 1))), (0, .ref h), (1, .ref g)]) hx hb dX4_init_44 hl (k := 0) rfl (nI_1 j) (by decide) rfl (fun ls hl => ?_)
          refine lv_goto (tgt := 19) hx hb dX4_init_47 (by decide) ?_
          rw [nI_clamp (i26 hjl), nz1, lIni_t (lpn4 c_4 hjl)] at hP hD
          exact ih (j + 1) (by omega) (by omega) _ _ hP hD hS ls (lv_sub hl [0, 1, 2] rfl)
  exact loop_2 27 0 (by omega) (by omega) _ _ (by rw [lIni_0]; exact hP) (by rw [lIni_0]; exact hD) hS ls (lv_sub hl [0, 1, 2] rfl)
end
section
set_option maxRecDepth 20000 in
theorem ggX6_init_X0_init : GoodIn wsX6_init wsX0_init := goodIn_r _ [32, 33, 2, 3, 34, 25, 26, 35, 36, 37, 38, 39, 40, 41, 42, 43, 44, 45, 46, 47, 48, 49, 50, 51, 52, 53, 54, 118, 92, 93] (by decide +kernel) (by decide +kernel)
set_option maxRecDepth 20000 in
theorem gX6_init_X0_init : GoodIn wsX6_init (wsX0_init) := ggX6_init_X0_init
set_option maxRecDepth 20000 in
theorem ggX6_init_X2_init : GoodIn wsX6_init wsX2_init := goodIn_r _ [56, 57, 2, 3, 58, 25, 26, 59, 60, 61, 62, 63, 64, 65, 38, 39, 40, 41, 42, 43, 44, 45, 46, 47, 48, 49, 50, 118, 102, 103, 104, 105, 106, 107] (by decide +kernel) (by decide +kernel)
set_option maxRecDepth 20000 in
theorem gX6_init_X2_init_n18 : GoodIn wsX6_init (wsX2_init) := ggX6_init_X2_init
set_option maxRecDepth 20000 in
theorem ggX6_init_X4_init : GoodIn wsX6_init wsX4_init := goodIn_r _ [68, 69, 2, 3, 70, 71, 72, 108, 109] (by decide +kernel) (by decide +kernel)
set_option maxRecDepth 20000 in
theorem gX6_init_X4_init : GoodIn wsX6_init (wsX4_init) := ggX6_init_X4_init
set_option maxRecDepth 20000 in
theorem ggX6_init_X3_init : GoodIn wsX6_init wsX3_init := goodIn_r _ [74, 75, 2, 3, 76, 25, 26, 77, 78, 79, 80, 81, 82, 83, 38, 39, 40, 41, 42, 43, 44, 45, 46, 47, 48, 49, 50, 118, 110, 111, 112, 113, 114, 115] (by decide +kernel) (by decide +kernel)
set_option maxRecDepth 20000 in
theorem gX6_init_X3_init_n34 : GoodIn wsX6_init (wsX3_init) := ggX6_init_X3_init
set_option maxRecDepth 20000 in
theorem ggX6_init_X5_init : GoodIn wsX6_init wsX5_init := goodIn_r _ [85, 86, 2, 3, 87, 25, 26, 88, 89, 90, 38, 39, 40, 41, 42, 43, 44, 45, 46, 47, 48, 49, 50, 118, 116, 117] (by decide +kernel) (by decide +kernel)
set_option maxRecDepth 20000 in
theorem gX6_init_X5_init_n41 : GoodIn wsX6_init (wsX5_init) := ggX6_init_X5_init
set_option maxRecDepth 20000 in
theorem ggX6_init_X1_init : GoodIn wsX6_init wsX1_init := goodIn_r _ [39, 40, 2, 3, 41, 42, 43, 44, 45, 46, 47, 48, 49, 50, 118] (by decide +kernel) (by decide +kernel)
set_option maxRecDepth 20000 in
theorem gX6_init_X1_init : GoodIn wsX6_init (wsX1_init) := ggX6_init_X1_init
theorem dX6_init_0 : decode cX6_init 0 = .ok (.aload_n 0, 1) := by decide +kernel
theorem dX6_init_1 : decode cX6_init 1 = .ok (.invokespecial 1, 3) := by decide +kernel
theorem dX6_init_4 : decode cX6_init 4 = .ok (.aload_n 0, 1) := by decide +kernel
theorem dX6_init_5 : decode cX6_init 5 = .ok (.new 7, 3) := by decide +kernel
theorem dX6_init_8 : decode cX6_init 8 = .ok (.dup, 1) := by decide +kernel
theorem dX6_init_9 : decode cX6_init 9 = .ok (.invokespecial 9, 3) := by decide +kernel
theorem dX6_init_12 : decode cX6_init 12 = .ok (.putfield 10, 3) := by decide +kernel
theorem dX6_init_15 : decode cX6_init 15 = .ok (.aload_n 0, 1) := by decide +kernel
theorem dX6_init_16 : decode cX6_init 16 = .ok (.new 16, 3) := by decide +kernel
theorem dX6_init_19 : decode cX6_init 19 = .ok (.dup, 1) := by decide +kernel
theorem dX6_init_20 : decode cX6_init 20 = .ok (.invokespecial 18, 3) := by decide +kernel
theorem dX6_init_23 : decode cX6_init 23 = .ok (.putfield 19, 3) := by decide +kernel
theorem dX6_init_26 : decode cX6_init 26 = .ok (.aload_n 0, 1) := by decide +kernel
theorem dX6_init_27 : decode cX6_init 27 = .ok (.new 23, 3) := by decide +kernel
theorem dX6_init_30 : decode cX6_init 30 = .ok (.dup, 1) := by decide +kernel
theorem dX6_init_31 : decode cX6_init 31 = .ok (.aload_n 0, 1) := by decide +kernel
theorem dX6_init_32 : decode cX6_init 32 = .ok (.getfield 19, 3) := by decide +kernel
theorem dX6_init_35 : decode cX6_init 35 = .ok (.invokespecial 25, 3) := by decide +kernel
theorem dX6_init_38 : decode cX6_init 38 = .ok (.putfield 28, 3) := by decide +kernel
theorem dX6_init_41 : decode cX6_init 41 = .ok (.aload_n 0, 1) := by decide +kernel
theorem dX6_init_42 : decode cX6_init 42 = .ok (.new 32, 3) := by decide +kernel
theorem dX6_init_45 : decode cX6_init 45 = .ok (.dup, 1) := by decide +kernel
theorem dX6_init_46 : decode cX6_init 46 = .ok (.invokespecial 34, 3) := by decide +kernel
theorem dX6_init_49 : decode cX6_init 49 = .ok (.putfield 35, 3) := by decide +kernel
theorem dX6_init_52 : decode cX6_init 52 = .ok (.aload_n 0, 1) := by decide +kernel
theorem dX6_init_53 : decode cX6_init 53 = .ok (.new 39, 3) := by decide +kernel
theorem dX6_init_56 : decode cX6_init 56 = .ok (.dup, 1) := by decide +kernel
theorem dX6_init_57 : decode cX6_init 57 = .ok (.invokespecial 41, 3) := by decide +kernel
theorem dX6_init_60 : decode cX6_init 60 = .ok (.putfield 42, 3) := by decide +kernel
theorem dX6_init_63 : decode cX6_init 63 = .ok (.aload_n 0, 1) := by decide +kernel
theorem dX6_init_64 : decode cX6_init 64 = .ok (.new 46, 3) := by decide +kernel
theorem dX6_init_67 : decode cX6_init 67 = .ok (.dup, 1) := by decide +kernel
theorem dX6_init_68 : decode cX6_init 68 = .ok (.iconst 5, 1) := by decide +kernel
theorem dX6_init_69 : decode cX6_init 69 = .ok (.iconst 0, 1) := by decide +kernel
theorem dX6_init_70 : decode cX6_init 70 = .ok (.invokespecial 48, 3) := by decide +kernel
theorem dX6_init_73 : decode cX6_init 73 = .ok (.putfield 51, 3) := by decide +kernel
theorem dX6_init_76 : decode cX6_init 76 = .ok (.aload_n 0, 1) := by decide +kernel
theorem dX6_init_77 : decode cX6_init 77 = .ok (.new 46, 3) := by decide +kernel
theorem dX6_init_80 : decode cX6_init 80 = .ok (.dup, 1) := by decide +kernel
theorem dX6_init_81 : decode cX6_init 81 = .ok (.bipush 8, 2) := by decide +kernel
theorem dX6_init_83 : decode cX6_init 83 = .ok (.iconst 0, 1) := by decide +kernel
theorem dX6_init_84 : decode cX6_init 84 = .ok (.invokespecial 48, 3) := by decide +kernel
theorem dX6_init_87 : decode cX6_init 87 = .ok (.putfield 55, 3) := by decide +kernel
theorem dX6_init_90 : decode cX6_init 90 = .ok (.aload_n 0, 1) := by decide +kernel
theorem dX6_init_91 : decode cX6_init 91 = .ok (.iconst 0, 1) := by decide +kernel
theorem dX6_init_92 : decode cX6_init 92 = .ok (.putfield 58, 3) := by decide +kernel
theorem dX6_init_95 : decode cX6_init 95 = .ok (.return_, 1) := by decide +kernel
set_option maxRecDepth 20000 in
theorem ggX6_put_X6_needLetter : GoodIn wsX6_put wsX6_needLetter := goodIn_ca (goodIn_r _ [7, 1, 2, 8, 9, 6, 10] (by decide +kernel) (by decide +kernel)) (goodIn_sub (fun _ h => List.mem_cons_of_mem _ (List.mem_append_right _ h)) (by decide +kernel))
set_option maxRecDepth 20000 in
theorem gX6_put_X6_needLetter : GoodIn wsX6_put (va_wsS RX6 62 yX6_needLetter wsX6_needLetter) := goodIn_app (goodIn_of _ (by decide +kernel)) ggX6_put_X6_needLetter
set_option maxRecDepth 20000 in
theorem ggX6_put_X6_isWithin : GoodIn wsX6_put wsX6_isWithin := goodIn_r _ [10] (by decide +kernel) (by decide +kernel)
set_option maxRecDepth 20000 in
theorem gX6_put_X6_isWithin : GoodIn wsX6_put (va_wsS RX6 66 yX6_isWithin wsX6_isWithin) := goodIn_app (goodIn_of _ (by decide +kernel)) ggX6_put_X6_isWithin
set_option maxRecDepth 20000 in
theorem ggX6_put_X0_move : GoodIn wsX6_put wsX0_move := goodIn_r _ [15, 16, 17, 18, 19, 20, 21, 22, 23, 24, 25, 26, 27, 36, 37, 38] (by decide +kernel) (by decide +kernel)
set_option maxRecDepth 20000 in
theorem gX6_put_X0_move : GoodIn wsX6_put (wsV RX6 77 RX0 yX0_move wsX0_move) := goodIn_app (goodIn_of _ (by decide +kernel)) ggX6_put_X0_move
theorem dX6_put_0 : decode cX6_put 0 = .ok (.iload_n 1, 1) := by decide +kernel
theorem dX6_put_1 : decode cX6_put 1 = .ok (.invokestatic 62, 3) := by decide +kernel
theorem dX6_put_4 : decode cX6_put 4 = .ok (.iload_n 2, 1) := by decide +kernel
theorem dX6_put_5 : decode cX6_put 5 = .ok (.iconst 0, 1) := by decide +kernel
theorem dX6_put_6 : decode cX6_put 6 = .ok (.bipush 9, 2) := by decide +kernel
theorem dX6_put_8 : decode cX6_put 8 = .ok (.invokestatic 66, 3) := by decide +kernel
theorem dX6_put_11 : decode cX6_put 11 = .ok (.ifCond .eq 12, 3) := by decide +kernel
theorem dX6_put_14 : decode cX6_put 14 = .ok (.iload_n 3, 1) := by decide +kernel
theorem dX6_put_15 : decode cX6_put 15 = .ok (.iconst 0, 1) := by decide +kernel
theorem dX6_put_16 : decode cX6_put 16 = .ok (.iconst 2, 1) := by decide +kernel
theorem dX6_put_17 : decode cX6_put 17 = .ok (.invokestatic 66, 3) := by decide +kernel
theorem dX6_put_20 : decode cX6_put 20 = .ok (.ifCond .ne 13, 3) := by decide +kernel
theorem dX6_put_23 : decode cX6_put 23 = .ok (.new 70, 3) := by decide +kernel
theorem dX6_put_26 : decode cX6_put 26 = .ok (.dup, 1) := by decide +kernel
theorem dX6_put_27 : decode cX6_put 27 = .ok (.ldc 72, 2) := by decide +kernel
theorem dX6_put_29 : decode cX6_put 29 = .ok (.invokespecial 74, 3) := by decide +kernel
theorem dX6_put_32 : decode cX6_put 32 = .ok (.athrow, 1) := by decide +kernel
theorem dX6_put_33 : decode cX6_put 33 = .ok (.aload_n 0, 1) := by decide +kernel
theorem dX6_put_34 : decode cX6_put 34 = .ok (.getfield 10, 3) := by decide +kernel
theorem dX6_put_37 : decode cX6_put 37 = .ok (.iload_n 1, 1) := by decide +kernel
theorem dX6_put_38 : decode cX6_put 38 = .ok (.iload_n 3, 1) := by decide +kernel
theorem dX6_put_39 : decode cX6_put 39 = .ok (.bipush 10, 2) := by decide +kernel
theorem dX6_put_41 : decode cX6_put 41 = .ok (.imul, 1) := by decide +kernel
theorem dX6_put_42 : decode cX6_put 42 = .ok (.iload_n 2, 1) := by decide +kernel
theorem dX6_put_43 : decode cX6_put 43 = .ok (.iadd, 1) := by decide +kernel
theorem dX6_put_44 : decode cX6_put 44 = .ok (.invokevirtual 77, 3) := by decide +kernel
theorem dX6_put_47 : decode cX6_put 47 = .ok (.ireturn, 1) := by decide +kernel
set_option maxRecDepth 20000 in
theorem ggX6_finger_X6_needLetter : GoodIn wsX6_finger wsX6_needLetter := goodIn_ca (goodIn_r _ [5, 6, 7, 8, 9, 4, 10] (by decide +kernel) (by decide +kernel)) (goodIn_sub (fun _ h => List.mem_cons_of_mem _ (List.mem_append_right _ h)) (by decide +kernel))
set_option maxRecDepth 20000 in
theorem gX6_finger_X6_needLetter : GoodIn wsX6_finger (va_wsS RX6 62 yX6_needLetter wsX6_needLetter) := goodIn_app (goodIn_of _ (by decide +kernel)) ggX6_finger_X6_needLetter
set_option maxRecDepth 20000 in
theorem ggX6_finger_X0_fingerOf : GoodIn wsX6_finger wsX0_fingerOf := goodIn_r _ [15, 16, 17, 18, 14, 19, 20, 21, 22, 23, 24, 25, 26, 35, 36, 37] (by decide +kernel) (by decide +kernel)
set_option maxRecDepth 20000 in
theorem gX6_finger_X0_fingerOf : GoodIn wsX6_finger (wsV RX6 81 RX0 yX0_fingerOf wsX0_fingerOf) := goodIn_app (goodIn_of _ (by decide +kernel)) ggX6_finger_X0_fingerOf
theorem dX6_finger_0 : decode cX6_finger 0 = .ok (.iload_n 1, 1) := by decide +kernel
theorem dX6_finger_1 : decode cX6_finger 1 = .ok (.invokestatic 62, 3) := by decide +kernel
theorem dX6_finger_4 : decode cX6_finger 4 = .ok (.aload_n 0, 1) := by decide +kernel
theorem dX6_finger_5 : decode cX6_finger 5 = .ok (.getfield 10, 3) := by decide +kernel
theorem dX6_finger_8 : decode cX6_finger 8 = .ok (.iload_n 1, 1) := by decide +kernel
theorem dX6_finger_9 : decode cX6_finger 9 = .ok (.invokevirtual 81, 3) := by decide +kernel
theorem dX6_finger_12 : decode cX6_finger 12 = .ok (.ireturn, 1) := by decide +kernel
set_option maxRecDepth 20000 in
theorem ggX6_areBeside_X6_needLetter : GoodIn wsX6_areBeside wsX6_needLetter := goodIn_ca (goodIn_r _ [5, 6, 7, 8, 9, 4, 10] (by decide +kernel) (by decide +kernel)) (goodIn_sub (fun _ h => List.mem_cons_of_mem _ (List.mem_append_right _ h)) (by decide +kernel))
set_option maxRecDepth 20000 in
theorem gX6_areBeside_X6_needLetter : GoodIn wsX6_areBeside (va_wsS RX6 62 yX6_needLetter wsX6_needLetter) := goodIn_app (goodIn_of _ (by decide +kernel)) ggX6_areBeside_X6_needLetter
set_option maxRecDepth 20000 in
theorem ggX6_areBeside_X0_touch : GoodIn wsX6_areBeside wsX0_touch := goodIn_r _ [15, 16, 17, 18, 19, 20, 21, 22, 14, 23, 24, 25, 26, 27, 28, 29, 30, 31, 32, 33, 34, 43, 44, 45] (by decide +kernel) (by decide +kernel)
set_option maxRecDepth 20000 in
theorem gX6_areBeside_X0_touch : GoodIn wsX6_areBeside (wsV RX6 85 RX0 yX0_touch wsX0_touch) := goodIn_app (goodIn_of _ (by decide +kernel)) ggX6_areBeside_X0_touch
theorem dX6_areBeside_0 : decode cX6_areBeside 0 = .ok (.iload_n 1, 1) := by decide +kernel
theorem dX6_areBeside_1 : decode cX6_areBeside 1 = .ok (.invokestatic 62, 3) := by decide +kernel
theorem dX6_areBeside_4 : decode cX6_areBeside 4 = .ok (.iload_n 2, 1) := by decide +kernel
theorem dX6_areBeside_5 : decode cX6_areBeside 5 = .ok (.invokestatic 62, 3) := by decide +kernel
theorem dX6_areBeside_8 : decode cX6_areBeside 8 = .ok (.aload_n 0, 1) := by decide +kernel
theorem dX6_areBeside_9 : decode cX6_areBeside 9 = .ok (.getfield 10, 3) := by decide +kernel
theorem dX6_areBeside_12 : decode cX6_areBeside 12 = .ok (.iload_n 1, 1) := by decide +kernel
theorem dX6_areBeside_13 : decode cX6_areBeside 13 = .ok (.iload_n 2, 1) := by decide +kernel
theorem dX6_areBeside_14 : decode cX6_areBeside 14 = .ok (.invokevirtual 85, 3) := by decide +kernel
theorem dX6_areBeside_17 : decode cX6_areBeside 17 = .ok (.ireturn, 1) := by decide +kernel
set_option maxRecDepth 20000 in
theorem ggX6_mirror_X6_needLetter : GoodIn wsX6_mirror wsX6_needLetter := goodIn_ca (goodIn_r _ [5, 6, 7, 8, 9, 4, 10] (by decide +kernel) (by decide +kernel)) (goodIn_sub (fun _ h => List.mem_cons_of_mem _ (List.mem_append_right _ h)) (by decide +kernel))
set_option maxRecDepth 20000 in
theorem gX6_mirror_X6_needLetter : GoodIn wsX6_mirror (va_wsS RX6 62 yX6_needLetter wsX6_needLetter) := goodIn_app (goodIn_of _ (by decide +kernel)) ggX6_mirror_X6_needLetter
set_option maxRecDepth 20000 in
theorem ggX6_mirror_X0_mirrorOf : GoodIn wsX6_mirror wsX0_mirrorOf := goodIn_r _ [15, 16, 17, 18, 19, 14, 20, 21, 22, 23, 24, 25, 26, 27, 28, 29, 30, 31, 40, 41, 42] (by decide +kernel) (by decide +kernel)
set_option maxRecDepth 20000 in
theorem gX6_mirror_X0_mirrorOf : GoodIn wsX6_mirror (wsV RX6 89 RX0 yX0_mirrorOf wsX0_mirrorOf) := goodIn_app (goodIn_of _ (by decide +kernel)) ggX6_mirror_X0_mirrorOf
theorem dX6_mirror_0 : decode cX6_mirror 0 = .ok (.iload_n 1, 1) := by decide +kernel
theorem dX6_mirror_1 : decode cX6_mirror 1 = .ok (.invokestatic 62, 3) := by decide +kernel
theorem dX6_mirror_4 : decode cX6_mirror 4 = .ok (.aload_n 0, 1) := by decide +kernel
theorem dX6_mirror_5 : decode cX6_mirror 5 = .ok (.getfield 10, 3) := by decide +kernel
theorem dX6_mirror_8 : decode cX6_mirror 8 = .ok (.iload_n 1, 1) := by decide +kernel
theorem dX6_mirror_9 : decode cX6_mirror 9 = .ok (.invokevirtual 89, 3) := by decide +kernel
theorem dX6_mirror_12 : decode cX6_mirror 12 = .ok (.ireturn, 1) := by decide +kernel
set_option maxRecDepth 20000 in
theorem ggX6_want_X6_needLetter : GoodIn wsX6_want wsX6_needLetter := goodIn_ca (goodIn_r _ [7, 8, 9, 10, 11, 6, 12] (by decide +kernel) (by decide +kernel)) (goodIn_sub (fun _ h => List.mem_cons_of_mem _ (List.mem_append_right _ h)) (by decide +kernel))
set_option maxRecDepth 20000 in
theorem gX6_want_X6_needLetter : GoodIn wsX6_want (va_wsS RX6 62 yX6_needLetter wsX6_needLetter) := goodIn_app (goodIn_of _ (by decide +kernel)) ggX6_want_X6_needLetter
set_option maxRecDepth 20000 in
theorem ggX6_want_X3_isFull : GoodIn wsX6_want wsX3_isFull := goodIn_r _ [17, 18, 38, 39, 40, 41, 42, 43] (by decide +kernel) (by decide +kernel)
set_option maxRecDepth 20000 in
theorem gX6_want_X3_isFull : GoodIn wsX6_want (wsV RX6 92 RX3 yX3_isFull wsX3_isFull) := goodIn_app (goodIn_of _ (by decide +kernel)) ggX6_want_X3_isFull
set_option maxRecDepth 20000 in
theorem ggX6_want_X3_append : GoodIn wsX6_want wsX3_append := goodIn_r _ [22, 23, 18, 24, 25, 26, 27, 28, 29, 38, 39, 40, 41, 42, 43, 44] (by decide +kernel) (by decide +kernel)
set_option maxRecDepth 20000 in
theorem gX6_want_X3_append : GoodIn wsX6_want (wsV RX6 101 RX3 yX3_append wsX3_append) := goodIn_app (goodIn_of _ (by decide +kernel)) ggX6_want_X3_append
theorem dX6_want_0 : decode cX6_want 0 = .ok (.iload_n 1, 1) := by decide +kernel
theorem dX6_want_1 : decode cX6_want 1 = .ok (.invokestatic 62, 3) := by decide +kernel
theorem dX6_want_4 : decode cX6_want 4 = .ok (.aload_n 0, 1) := by decide +kernel
theorem dX6_want_5 : decode cX6_want 5 = .ok (.getfield 35, 3) := by decide +kernel
theorem dX6_want_8 : decode cX6_want 8 = .ok (.invokevirtual 92, 3) := by decide +kernel
theorem dX6_want_11 : decode cX6_want 11 = .ok (.ifCond .eq 13, 3) := by decide +kernel
theorem dX6_want_14 : decode cX6_want 14 = .ok (.new 96, 3) := by decide +kernel
theorem dX6_want_17 : decode cX6_want 17 = .ok (.dup, 1) := by decide +kernel
theorem dX6_want_18 : decode cX6_want 18 = .ok (.ldc 98, 2) := by decide +kernel
theorem dX6_want_20 : decode cX6_want 20 = .ok (.invokespecial 100, 3) := by decide +kernel
theorem dX6_want_23 : decode cX6_want 23 = .ok (.athrow, 1) := by decide +kernel
theorem dX6_want_24 : decode cX6_want 24 = .ok (.aload_n 0, 1) := by decide +kernel
theorem dX6_want_25 : decode cX6_want 25 = .ok (.getfield 35, 3) := by decide +kernel
theorem dX6_want_28 : decode cX6_want 28 = .ok (.iload_n 1, 1) := by decide +kernel
theorem dX6_want_29 : decode cX6_want 29 = .ok (.invokevirtual 101, 3) := by decide +kernel
theorem dX6_want_32 : decode cX6_want 32 = .ok (.aload_n 0, 1) := by decide +kernel
theorem dX6_want_33 : decode cX6_want 33 = .ok (.getfield 35, 3) := by decide +kernel
theorem dX6_want_36 : decode cX6_want 36 = .ok (.getfield 104, 3) := by decide +kernel
theorem dX6_want_39 : decode cX6_want 39 = .ok (.ireturn, 1) := by decide +kernel
set_option maxRecDepth 20000 in
theorem ggX6_drill_X6_isWithin : GoodIn wsX6_drill wsX6_isWithin := goodIn_r _ [8] (by decide +kernel) (by decide +kernel)
set_option maxRecDepth 20000 in
theorem gX6_drill_X6_isWithin : GoodIn wsX6_drill (va_wsS RX6 66 yX6_isWithin wsX6_isWithin) := goodIn_app (goodIn_of _ (by decide +kernel)) ggX6_drill_X6_isWithin
set_option maxRecDepth 20000 in
theorem ggX6_drill_X4_weakestOfAll : GoodIn wsX6_drill wsX4_weakestOfAll := goodIn_r _ [13, 14, 15, 16, 17, 12, 18, 19, 20, 21, 22, 23, 24, 25, 26, 27, 28, 29, 30, 31, 32, 68, 69, 70, 71, 72, 73, 74, 75, 76] (by decide +kernel) (by decide +kernel)
set_option maxRecDepth 20000 in
theorem gX6_drill_X4_weakestOfAll : GoodIn wsX6_drill (wsV RX6 112 RX4 yX4_weakestOfAll wsX4_weakestOfAll) := goodIn_app (goodIn_of _ (by decide +kernel)) ggX6_drill_X4_weakestOfAll
set_option maxRecDepth 20000 in
theorem ggX6_drill_X3_isFull : GoodIn wsX6_drill wsX3_isFull := goodIn_r _ [37, 38, 77, 78, 79, 80, 81, 82] (by decide +kernel) (by decide +kernel)
set_option maxRecDepth 20000 in
theorem gX6_drill_X3_isFull : GoodIn wsX6_drill (wsV RX6 92 RX3 yX3_isFull wsX3_isFull) := goodIn_app (goodIn_of _ (by decide +kernel)) ggX6_drill_X3_isFull
set_option maxRecDepth 20000 in
theorem ggX6_drill_X3_append : GoodIn wsX6_drill wsX3_append := goodIn_r _ [42, 43, 38, 44, 45, 46, 30, 47, 32, 77, 78, 79, 80, 81, 82, 76] (by decide +kernel) (by decide +kernel)
set_option maxRecDepth 20000 in
theorem gX6_drill_X3_append : GoodIn wsX6_drill (wsV RX6 101 RX3 yX3_append wsX3_append) := goodIn_app (goodIn_of _ (by decide +kernel)) ggX6_drill_X3_append
set_option maxRecDepth 20000 in
theorem ggX6_drill_X4_slowestBehind : GoodIn wsX6_drill wsX4_slowestBehind := goodIn_r _ [51, 14, 52, 53, 54, 23, 55, 56, 57, 58, 59, 27, 28, 29, 30, 31, 32, 15, 16, 17, 12, 18, 19, 68, 69, 70, 71, 72, 73, 74, 75, 76] (by decide +kernel) (by decide +kernel)
set_option maxRecDepth 20000 in
theorem gX6_drill_X4_slowestBehind : GoodIn wsX6_drill (wsV RX6 116 RX4 yX4_slowestBehind wsX4_slowestBehind) := goodIn_app (goodIn_of _ (by decide +kernel)) ggX6_drill_X4_slowestBehind
theorem dX6_drill_0 : decode cX6_drill 0 = .ok (.iload_n 1, 1) := by decide +kernel
theorem dX6_drill_1 : decode cX6_drill 1 = .ok (.iconst 1, 1) := by decide +kernel
theorem dX6_drill_2 : decode cX6_drill 2 = .ok (.bipush 40, 2) := by decide +kernel
theorem dX6_drill_4 : decode cX6_drill 4 = .ok (.invokestatic 66, 3) := by decide +kernel
theorem dX6_drill_7 : decode cX6_drill 7 = .ok (.ifCond .ne 13, 3) := by decide +kernel
theorem dX6_drill_10 : decode cX6_drill 10 = .ok (.new 107, 3) := by decide +kernel
theorem dX6_drill_13 : decode cX6_drill 13 = .ok (.dup, 1) := by decide +kernel
theorem dX6_drill_14 : decode cX6_drill 14 = .ok (.ldc 109, 2) := by decide +kernel
theorem dX6_drill_16 : decode cX6_drill 16 = .ok (.invokespecial 111, 3) := by decide +kernel
theorem dX6_drill_19 : decode cX6_drill 19 = .ok (.athrow, 1) := by decide +kernel
theorem dX6_drill_20 : decode cX6_drill 20 = .ok (.aload_n 0, 1) := by decide +kernel
theorem dX6_drill_21 : decode cX6_drill 21 = .ok (.getfield 28, 3) := by decide +kernel
theorem dX6_drill_24 : decode cX6_drill 24 = .ok (.invokevirtual 112, 3) := by decide +kernel
theorem dX6_drill_27 : decode cX6_drill 27 = .ok (.istore_n 2, 1) := by decide +kernel
theorem dX6_drill_28 : decode cX6_drill 28 = .ok (.iconst 0, 1) := by decide +kernel
theorem dX6_drill_29 : decode cX6_drill 29 = .ok (.istore_n 3, 1) := by decide +kernel
theorem dX6_drill_30 : decode cX6_drill 30 = .ok (.iload_n 3, 1) := by decide +kernel
theorem dX6_drill_31 : decode cX6_drill 31 = .ok (.iload_n 1, 1) := by decide +kernel
theorem dX6_drill_32 : decode cX6_drill 32 = .ok (.if_icmp .ge 36, 3) := by decide +kernel
theorem dX6_drill_35 : decode cX6_drill 35 = .ok (.aload_n 0, 1) := by decide +kernel
theorem dX6_drill_36 : decode cX6_drill 36 = .ok (.getfield 35, 3) := by decide +kernel
theorem dX6_drill_39 : decode cX6_drill 39 = .ok (.invokevirtual 92, 3) := by decide +kernel
theorem dX6_drill_42 : decode cX6_drill 42 = .ok (.ifCond .ne 26, 3) := by decide +kernel
theorem dX6_drill_45 : decode cX6_drill 45 = .ok (.aload_n 0, 1) := by decide +kernel
theorem dX6_drill_46 : decode cX6_drill 46 = .ok (.getfield 35, 3) := by decide +kernel
theorem dX6_drill_49 : decode cX6_drill 49 = .ok (.iload_n 2, 1) := by decide +kernel
theorem dX6_drill_50 : decode cX6_drill 50 = .ok (.invokevirtual 101, 3) := by decide +kernel
theorem dX6_drill_53 : decode cX6_drill 53 = .ok (.aload_n 0, 1) := by decide +kernel
theorem dX6_drill_54 : decode cX6_drill 54 = .ok (.getfield 28, 3) := by decide +kernel
theorem dX6_drill_57 : decode cX6_drill 57 = .ok (.iload_n 2, 1) := by decide +kernel
theorem dX6_drill_58 : decode cX6_drill 58 = .ok (.invokevirtual 116, 3) := by decide +kernel
theorem dX6_drill_61 : decode cX6_drill 61 = .ok (.istore_n 2, 1) := by decide +kernel
theorem dX6_drill_62 : decode cX6_drill 62 = .ok (.iinc 3 1, 3) := by decide +kernel
theorem dX6_drill_65 : decode cX6_drill 65 = .ok (.goto (-35), 3) := by decide +kernel
theorem dX6_drill_68 : decode cX6_drill 68 = .ok (.iload_n 3, 1) := by decide +kernel
theorem dX6_drill_69 : decode cX6_drill 69 = .ok (.ireturn, 1) := by decide +kernel
theorem dX6_wanted_0 : decode cX6_wanted 0 = .ok (.aload_n 0, 1) := by decide +kernel
theorem dX6_wanted_1 : decode cX6_wanted 1 = .ok (.getfield 35, 3) := by decide +kernel
theorem dX6_wanted_4 : decode cX6_wanted 4 = .ok (.getfield 104, 3) := by decide +kernel
theorem dX6_wanted_7 : decode cX6_wanted 7 = .ok (.ireturn, 1) := by decide +kernel
set_option maxRecDepth 20000 in
theorem ggX6_wantedAt_X6_isWithin : GoodIn wsX6_wantedAt wsX6_isWithin := goodIn_r _ [7] (by decide +kernel) (by decide +kernel)
set_option maxRecDepth 20000 in
theorem gX6_wantedAt_X6_isWithin : GoodIn wsX6_wantedAt (va_wsS RX6 66 yX6_isWithin wsX6_isWithin) := goodIn_app (goodIn_of _ (by decide +kernel)) ggX6_wantedAt_X6_isWithin
set_option maxRecDepth 20000 in
theorem ggX6_wantedAt_X3_letterAt : GoodIn wsX6_wantedAt wsX3_letterAt := goodIn_r _ [12, 13, 14, 15, 16, 17, 18, 19, 20, 29, 30, 31, 32, 33, 34, 35] (by decide +kernel) (by decide +kernel)
set_option maxRecDepth 20000 in
theorem gX6_wantedAt_X3_letterAt : GoodIn wsX6_wantedAt (wsV RX6 121 RX3 yX3_letterAt wsX3_letterAt) := goodIn_app (goodIn_of _ (by decide +kernel)) ggX6_wantedAt_X3_letterAt
theorem dX6_wantedAt_0 : decode cX6_wantedAt 0 = .ok (.iload_n 1, 1) := by decide +kernel
theorem dX6_wantedAt_1 : decode cX6_wantedAt 1 = .ok (.iconst 0, 1) := by decide +kernel
theorem dX6_wantedAt_2 : decode cX6_wantedAt 2 = .ok (.aload_n 0, 1) := by decide +kernel
theorem dX6_wantedAt_3 : decode cX6_wantedAt 3 = .ok (.getfield 35, 3) := by decide +kernel
theorem dX6_wantedAt_6 : decode cX6_wantedAt 6 = .ok (.getfield 104, 3) := by decide +kernel
theorem dX6_wantedAt_9 : decode cX6_wantedAt 9 = .ok (.iconst 1, 1) := by decide +kernel
theorem dX6_wantedAt_10 : decode cX6_wantedAt 10 = .ok (.isub, 1) := by decide +kernel
theorem dX6_wantedAt_11 : decode cX6_wantedAt 11 = .ok (.invokestatic 66, 3) := by decide +kernel
theorem dX6_wantedAt_14 : decode cX6_wantedAt 14 = .ok (.ifCond .ne 13, 3) := by decide +kernel
theorem dX6_wantedAt_17 : decode cX6_wantedAt 17 = .ok (.new 70, 3) := by decide +kernel
theorem dX6_wantedAt_20 : decode cX6_wantedAt 20 = .ok (.dup, 1) := by decide +kernel
theorem dX6_wantedAt_21 : decode cX6_wantedAt 21 = .ok (.ldc 119, 2) := by decide +kernel
theorem dX6_wantedAt_23 : decode cX6_wantedAt 23 = .ok (.invokespecial 74, 3) := by decide +kernel
theorem dX6_wantedAt_26 : decode cX6_wantedAt 26 = .ok (.athrow, 1) := by decide +kernel
theorem dX6_wantedAt_27 : decode cX6_wantedAt 27 = .ok (.aload_n 0, 1) := by decide +kernel
theorem dX6_wantedAt_28 : decode cX6_wantedAt 28 = .ok (.getfield 35, 3) := by decide +kernel
theorem dX6_wantedAt_31 : decode cX6_wantedAt 31 = .ok (.iload_n 1, 1) := by decide +kernel
theorem dX6_wantedAt_32 : decode cX6_wantedAt 32 = .ok (.invokevirtual 121, 3) := by decide +kernel
theorem dX6_wantedAt_35 : decode cX6_wantedAt 35 = .ok (.ireturn, 1) := by decide +kernel
theorem dX6_position_0 : decode cX6_position 0 = .ok (.aload_n 0, 1) := by decide +kernel
theorem dX6_position_1 : decode cX6_position 1 = .ok (.getfield 35, 3) := by decide +kernel
theorem dX6_position_4 : decode cX6_position 4 = .ok (.getfield 124, 3) := by decide +kernel
theorem dX6_position_7 : decode cX6_position 7 = .ok (.ireturn, 1) := by decide +kernel
set_option maxRecDepth 20000 in
theorem ggX6_stroke_X6_needLetter : GoodIn wsX6_stroke wsX6_needLetter := goodIn_ca (goodIn_r _ [12, 13, 14, 15, 16, 11, 17] (by decide +kernel) (by decide +kernel)) (goodIn_sub (fun _ h => List.mem_cons_of_mem _ (List.mem_append_left _ (List.mem_append_right _ h))) (by decide +kernel))
set_option maxRecDepth 20000 in
theorem gX6_stroke_X6_needLetter : GoodIn wsX6_stroke (va_wsS RX6 62 yX6_needLetter wsX6_needLetter) := goodIn_app (goodIn_of _ (by decide +kernel)) ggX6_stroke_X6_needLetter
set_option maxRecDepth 20000 in
theorem ggX6_stroke_X6_needMillis : GoodIn wsX6_stroke wsX6_needMillis := goodIn_ca (goodIn_r _ [20, 21, 22, 15, 16, 11, 17] (by decide +kernel) (by decide +kernel)) (goodIn_sub (fun _ h => List.mem_cons_of_mem _ (List.mem_append_right _ h)) (by decide +kernel))
set_option maxRecDepth 20000 in
theorem gX6_stroke_X6_needMillis : GoodIn wsX6_stroke (va_wsS RX6 127 yX6_needMillis wsX6_needMillis) := goodIn_app (goodIn_of _ (by decide +kernel)) ggX6_stroke_X6_needMillis
set_option maxRecDepth 20000 in
theorem ggX6_stroke_X3_letterAt : GoodIn wsX6_stroke wsX3_letterAt := goodIn_r _ [27, 28, 29, 30, 31, 32, 33, 34, 35, 123, 124, 125, 126, 127, 128, 129] (by decide +kernel) (by decide +kernel)
set_option maxRecDepth 20000 in
theorem gX6_stroke_X3_letterAt : GoodIn wsX6_stroke (wsV RX6 121 RX3 yX3_letterAt wsX3_letterAt) := goodIn_app (goodIn_of _ (by decide +kernel)) ggX6_stroke_X3_letterAt
set_option maxRecDepth 20000 in
theorem ggX6_stroke_X6_kindOfStroke : GoodIn wsX6_stroke wsX6_kindOfStroke := goodIn_r _ [39, 3, 7, 40, 41, 42, 26, 43, 44, 45, 30, 31, 32, 33, 34, 35, 23, 24, 25, 27, 28, 29, 46, 47, 48, 49, 50, 51, 52, 53, 54, 55, 56, 57, 58, 59, 60, 61, 62, 63, 64, 65, 66, 67, 68, 69, 115, 116, 117, 118, 119, 120, 121, 122, 123, 124, 125, 126, 127, 128, 129, 130, 131] (by decide +kernel) (by decide +kernel)
set_option maxRecDepth 20000 in
theorem gX6_stroke_X6_kindOfStroke : GoodIn wsX6_stroke (wsV RX6 132 RX6 yX6_kindOfStroke wsX6_kindOfStroke) := goodIn_app (goodIn_of _ (by decide +kernel)) ggX6_stroke_X6_kindOfStroke
set_option maxRecDepth 20000 in
theorem ggX6_stroke_X2_learn : GoodIn wsX6_stroke wsX2_learn := goodIn_r _ [74, 75, 76, 77, 78, 79, 80, 33, 81, 82, 31, 32, 34, 35, 83, 84, 85, 86, 87, 88, 89, 73, 90, 91, 132, 133, 134, 135, 136, 137, 129] (by decide +kernel) (by decide +kernel)
set_option maxRecDepth 20000 in
theorem gX6_stroke_X2_learn : GoodIn wsX6_stroke (wsV RX6 135 RX2 yX2_learn wsX2_learn) := goodIn_app (goodIn_of _ (by decide +kernel)) ggX6_stroke_X2_learn
set_option maxRecDepth 20000 in
theorem ggX6_stroke_X2_learnPair : GoodIn wsX6_stroke wsX2_learnPair := goodIn_r _ [95, 96, 97, 98, 73, 99, 100, 101, 102, 103, 87, 31, 32, 33, 34, 35, 88, 89, 90, 91, 84, 85, 86, 132, 133, 134, 135, 136, 137, 129] (by decide +kernel) (by decide +kernel)
set_option maxRecDepth 20000 in
theorem gX6_stroke_X2_learnPair : GoodIn wsX6_stroke (wsV RX6 139 RX2 yX2_learnPair wsX2_learnPair) := goodIn_app (goodIn_of _ (by decide +kernel)) ggX6_stroke_X2_learnPair
set_option maxRecDepth 20000 in
theorem ggX6_stroke_X1_add : GoodIn wsX6_stroke wsX1_add := goodIn_r _ [81, 82, 31, 32, 33, 34, 35, 83, 84, 85, 86, 129] (by decide +kernel) (by decide +kernel)
set_option maxRecDepth 20000 in
theorem gX6_stroke_X1_add : GoodIn wsX6_stroke (wsV RX6 143 RX1 yX1_add wsX1_add) := goodIn_app (goodIn_of _ (by decide +kernel)) ggX6_stroke_X1_add
set_option maxRecDepth 20000 in
theorem ggX6_stroke_X0_fingerOf : GoodIn wsX6_stroke wsX0_fingerOf := goodIn_r _ [108, 55, 56, 57, 49, 58, 59, 60, 31, 32, 33, 34, 35, 130, 131, 129] (by decide +kernel) (by decide +kernel)
set_option maxRecDepth 20000 in
theorem gX6_stroke_X0_fingerOf : GoodIn wsX6_stroke (wsV RX6 81 RX0 yX0_fingerOf wsX0_fingerOf) := goodIn_app (goodIn_of _ (by decide +kernel)) ggX6_stroke_X0_fingerOf
set_option maxRecDepth 20000 in
theorem ggX6_stroke_X3_type : GoodIn wsX6_stroke wsX3_type := goodIn_r _ [112, 44, 45, 113, 114, 84, 85, 33, 86, 35, 123, 124, 125, 126, 127, 128, 129] (by decide +kernel) (by decide +kernel)
set_option maxRecDepth 20000 in
theorem gX6_stroke_X3_type : GoodIn wsX6_stroke (wsV RX6 146 RX3 yX3_type wsX3_type) := goodIn_app (goodIn_of _ (by decide +kernel)) ggX6_stroke_X3_type
theorem dX6_stroke_0 : decode cX6_stroke 0 = .ok (.iload_n 1, 1) := by decide +kernel
theorem dX6_stroke_1 : decode cX6_stroke 1 = .ok (.invokestatic 62, 3) := by decide +kernel
theorem dX6_stroke_4 : decode cX6_stroke 4 = .ok (.iload_n 2, 1) := by decide +kernel
theorem dX6_stroke_5 : decode cX6_stroke 5 = .ok (.invokestatic 127, 3) := by decide +kernel
theorem dX6_stroke_8 : decode cX6_stroke 8 = .ok (.aload_n 0, 1) := by decide +kernel
theorem dX6_stroke_9 : decode cX6_stroke 9 = .ok (.getfield 35, 3) := by decide +kernel
theorem dX6_stroke_12 : decode cX6_stroke 12 = .ok (.aload_n 0, 1) := by decide +kernel
theorem dX6_stroke_13 : decode cX6_stroke 13 = .ok (.getfield 35, 3) := by decide +kernel
theorem dX6_stroke_16 : decode cX6_stroke 16 = .ok (.getfield 124, 3) := by decide +kernel
theorem dX6_stroke_19 : decode cX6_stroke 19 = .ok (.invokevirtual 121, 3) := by decide +kernel
theorem dX6_stroke_22 : decode cX6_stroke 22 = .ok (.istore_n 3, 1) := by decide +kernel
theorem dX6_stroke_23 : decode cX6_stroke 23 = .ok (.iload_n 3, 1) := by decide +kernel
theorem dX6_stroke_24 : decode cX6_stroke 24 = .ok (.iconst (-1), 1) := by decide +kernel
theorem dX6_stroke_25 : decode cX6_stroke 25 = .ok (.if_icmp .ne 13, 3) := by decide +kernel
theorem dX6_stroke_28 : decode cX6_stroke 28 = .ok (.new 96, 3) := by decide +kernel
theorem dX6_stroke_31 : decode cX6_stroke 31 = .ok (.dup, 1) := by decide +kernel
theorem dX6_stroke_32 : decode cX6_stroke 32 = .ok (.ldc 130, 2) := by decide +kernel
theorem dX6_stroke_34 : decode cX6_stroke 34 = .ok (.invokespecial 100, 3) := by decide +kernel
theorem dX6_stroke_37 : decode cX6_stroke 37 = .ok (.athrow, 1) := by decide +kernel
theorem dX6_stroke_38 : decode cX6_stroke 38 = .ok (.aload_n 0, 1) := by decide +kernel
theorem dX6_stroke_39 : decode cX6_stroke 39 = .ok (.iload_n 1, 1) := by decide +kernel
theorem dX6_stroke_40 : decode cX6_stroke 40 = .ok (.iload_n 3, 1) := by decide +kernel
theorem dX6_stroke_41 : decode cX6_stroke 41 = .ok (.invokevirtual 132, 3) := by decide +kernel
theorem dX6_stroke_44 : decode cX6_stroke 44 = .ok (.istore 4, 2) := by decide +kernel
theorem dX6_stroke_46 : decode cX6_stroke 46 = .ok (.aload_n 0, 1) := by decide +kernel
theorem dX6_stroke_47 : decode cX6_stroke 47 = .ok (.getfield 19, 3) := by decide +kernel
theorem dX6_stroke_50 : decode cX6_stroke 50 = .ok (.iload_n 3, 1) := by decide +kernel
theorem dX6_stroke_51 : decode cX6_stroke 51 = .ok (.iload_n 2, 1) := by decide +kernel
theorem dX6_stroke_52 : decode cX6_stroke 52 = .ok (.iload 4, 2) := by decide +kernel
theorem dX6_stroke_54 : decode cX6_stroke 54 = .ok (.iconst (-1), 1) := by decide +kernel
theorem dX6_stroke_55 : decode cX6_stroke 55 = .ok (.if_icmp .eq 7, 3) := by decide +kernel
theorem dX6_stroke_58 : decode cX6_stroke 58 = .ok (.iconst 1, 1) := by decide +kernel
theorem dX6_stroke_59 : decode cX6_stroke 59 = .ok (.goto 4, 3) := by decide +kernel
theorem dX6_stroke_62 : decode cX6_stroke 62 = .ok (.iconst 0, 1) := by decide +kernel
theorem dX6_stroke_63 : decode cX6_stroke 63 = .ok (.invokevirtual 135, 3) := by decide +kernel
theorem dX6_stroke_66 : decode cX6_stroke 66 = .ok (.aload_n 0, 1) := by decide +kernel
theorem dX6_stroke_67 : decode cX6_stroke 67 = .ok (.getfield 35, 3) := by decide +kernel
theorem dX6_stroke_70 : decode cX6_stroke 70 = .ok (.getfield 124, 3) := by decide +kernel
theorem dX6_stroke_73 : decode cX6_stroke 73 = .ok (.ifCond .eq 28, 3) := by decide +kernel
theorem dX6_stroke_76 : decode cX6_stroke 76 = .ok (.aload_n 0, 1) := by decide +kernel
theorem dX6_stroke_77 : decode cX6_stroke 77 = .ok (.getfield 19, 3) := by decide +kernel
theorem dX6_stroke_80 : decode cX6_stroke 80 = .ok (.aload_n 0, 1) := by decide +kernel
theorem dX6_stroke_81 : decode cX6_stroke 81 = .ok (.getfield 35, 3) := by decide +kernel
theorem dX6_stroke_84 : decode cX6_stroke 84 = .ok (.aload_n 0, 1) := by decide +kernel
theorem dX6_stroke_85 : decode cX6_stroke 85 = .ok (.getfield 35, 3) := by decide +kernel
theorem dX6_stroke_88 : decode cX6_stroke 88 = .ok (.getfield 124, 3) := by decide +kernel
theorem dX6_stroke_91 : decode cX6_stroke 91 = .ok (.iconst 1, 1) := by decide +kernel
theorem dX6_stroke_92 : decode cX6_stroke 92 = .ok (.isub, 1) := by decide +kernel
theorem dX6_stroke_93 : decode cX6_stroke 93 = .ok (.invokevirtual 121, 3) := by decide +kernel
theorem dX6_stroke_96 : decode cX6_stroke 96 = .ok (.iload_n 3, 1) := by decide +kernel
theorem dX6_stroke_97 : decode cX6_stroke 97 = .ok (.iload_n 2, 1) := by decide +kernel
theorem dX6_stroke_98 : decode cX6_stroke 98 = .ok (.invokevirtual 139, 3) := by decide +kernel
theorem dX6_stroke_101 : decode cX6_stroke 101 = .ok (.iload 4, 2) := by decide +kernel
theorem dX6_stroke_103 : decode cX6_stroke 103 = .ok (.iconst (-1), 1) := by decide +kernel
theorem dX6_stroke_104 : decode cX6_stroke 104 = .ok (.if_icmp .eq 29, 3) := by decide +kernel
theorem dX6_stroke_107 : decode cX6_stroke 107 = .ok (.aload_n 0, 1) := by decide +kernel
theorem dX6_stroke_108 : decode cX6_stroke 108 = .ok (.getfield 51, 3) := by decide +kernel
theorem dX6_stroke_111 : decode cX6_stroke 111 = .ok (.iload 4, 2) := by decide +kernel
theorem dX6_stroke_113 : decode cX6_stroke 113 = .ok (.iconst 1, 1) := by decide +kernel
theorem dX6_stroke_114 : decode cX6_stroke 114 = .ok (.invokevirtual 143, 3) := by decide +kernel
theorem dX6_stroke_117 : decode cX6_stroke 117 = .ok (.aload_n 0, 1) := by decide +kernel
theorem dX6_stroke_118 : decode cX6_stroke 118 = .ok (.getfield 55, 3) := by decide +kernel
theorem dX6_stroke_121 : decode cX6_stroke 121 = .ok (.aload_n 0, 1) := by decide +kernel
theorem dX6_stroke_122 : decode cX6_stroke 122 = .ok (.getfield 10, 3) := by decide +kernel
theorem dX6_stroke_125 : decode cX6_stroke 125 = .ok (.iload_n 3, 1) := by decide +kernel
theorem dX6_stroke_126 : decode cX6_stroke 126 = .ok (.invokevirtual 81, 3) := by decide +kernel
theorem dX6_stroke_129 : decode cX6_stroke 129 = .ok (.iconst 1, 1) := by decide +kernel
theorem dX6_stroke_130 : decode cX6_stroke 130 = .ok (.invokevirtual 143, 3) := by decide +kernel
theorem dX6_stroke_133 : decode cX6_stroke 133 = .ok (.aload_n 0, 1) := by decide +kernel
theorem dX6_stroke_134 : decode cX6_stroke 134 = .ok (.getfield 35, 3) := by decide +kernel
theorem dX6_stroke_137 : decode cX6_stroke 137 = .ok (.iload_n 1, 1) := by decide +kernel
theorem dX6_stroke_138 : decode cX6_stroke 138 = .ok (.iload_n 2, 1) := by decide +kernel
theorem dX6_stroke_139 : decode cX6_stroke 139 = .ok (.invokevirtual 146, 3) := by decide +kernel
theorem dX6_stroke_142 : decode cX6_stroke 142 = .ok (.aload_n 0, 1) := by decide +kernel
theorem dX6_stroke_143 : decode cX6_stroke 143 = .ok (.dup, 1) := by decide +kernel
theorem dX6_stroke_144 : decode cX6_stroke 144 = .ok (.getfield 58, 3) := by decide +kernel
theorem dX6_stroke_147 : decode cX6_stroke 147 = .ok (.iconst 1, 1) := by decide +kernel
theorem dX6_stroke_148 : decode cX6_stroke 148 = .ok (.iadd, 1) := by decide +kernel
theorem dX6_stroke_149 : decode cX6_stroke 149 = .ok (.putfield 58, 3) := by decide +kernel
theorem dX6_stroke_152 : decode cX6_stroke 152 = .ok (.iload 4, 2) := by decide +kernel
theorem dX6_stroke_154 : decode cX6_stroke 154 = .ok (.ireturn, 1) := by decide +kernel
set_option maxRecDepth 20000 in
theorem ggX6_back_X6_needMillis : GoodIn wsX6_back wsX6_needMillis := goodIn_ca (goodIn_r _ [7, 8, 9, 10, 11, 6, 12] (by decide +kernel) (by decide +kernel)) (goodIn_sub (fun _ h => List.mem_cons_of_mem _ (List.mem_append_right _ h)) (by decide +kernel))
set_option maxRecDepth 20000 in
theorem gX6_back_X6_needMillis : GoodIn wsX6_back (va_wsS RX6 127 yX6_needMillis wsX6_needMillis) := goodIn_app (goodIn_of _ (by decide +kernel)) ggX6_back_X6_needMillis
set_option maxRecDepth 20000 in
theorem ggX6_back_X3_goBack : GoodIn wsX6_back wsX3_goBack := goodIn_r _ [17, 18, 19, 20, 29, 30, 31, 32, 33, 34] (by decide +kernel) (by decide +kernel)
set_option maxRecDepth 20000 in
theorem gX6_back_X3_goBack : GoodIn wsX6_back (wsV RX6 151 RX3 yX3_goBack wsX3_goBack) := goodIn_app (goodIn_of _ (by decide +kernel)) ggX6_back_X3_goBack
theorem dX6_back_0 : decode cX6_back 0 = .ok (.iload_n 1, 1) := by decide +kernel
theorem dX6_back_1 : decode cX6_back 1 = .ok (.invokestatic 127, 3) := by decide +kernel
theorem dX6_back_4 : decode cX6_back 4 = .ok (.aload_n 0, 1) := by decide +kernel
theorem dX6_back_5 : decode cX6_back 5 = .ok (.getfield 35, 3) := by decide +kernel
theorem dX6_back_8 : decode cX6_back 8 = .ok (.getfield 124, 3) := by decide +kernel
theorem dX6_back_11 : decode cX6_back 11 = .ok (.ifCond .ne 13, 3) := by decide +kernel
theorem dX6_back_14 : decode cX6_back 14 = .ok (.new 96, 3) := by decide +kernel
theorem dX6_back_17 : decode cX6_back 17 = .ok (.dup, 1) := by decide +kernel
theorem dX6_back_18 : decode cX6_back 18 = .ok (.ldc 149, 2) := by decide +kernel
theorem dX6_back_20 : decode cX6_back 20 = .ok (.invokespecial 100, 3) := by decide +kernel
theorem dX6_back_23 : decode cX6_back 23 = .ok (.athrow, 1) := by decide +kernel
theorem dX6_back_24 : decode cX6_back 24 = .ok (.aload_n 0, 1) := by decide +kernel
theorem dX6_back_25 : decode cX6_back 25 = .ok (.getfield 35, 3) := by decide +kernel
theorem dX6_back_28 : decode cX6_back 28 = .ok (.iload_n 1, 1) := by decide +kernel
theorem dX6_back_29 : decode cX6_back 29 = .ok (.invokevirtual 151, 3) := by decide +kernel
theorem dX6_back_32 : decode cX6_back 32 = .ok (.aload_n 0, 1) := by decide +kernel
theorem dX6_back_33 : decode cX6_back 33 = .ok (.getfield 35, 3) := by decide +kernel
theorem dX6_back_36 : decode cX6_back 36 = .ok (.getfield 124, 3) := by decide +kernel
theorem dX6_back_39 : decode cX6_back 39 = .ok (.ireturn, 1) := by decide +kernel
set_option maxRecDepth 20000 in
theorem ggX6_speed_X3_speedSoFar : GoodIn wsX6_speed wsX3_speedSoFar := goodIn_r _ [6, 7, 8, 9, 10, 11, 5, 12, 13, 14, 15, 16, 17, 18, 19, 20, 21, 30, 31, 32, 33, 34, 35, 36] (by decide +kernel) (by decide +kernel)
set_option maxRecDepth 20000 in
theorem gX6_speed_X3_speedSoFar : GoodIn wsX6_speed (wsV RX6 154 RX3 yX3_speedSoFar wsX3_speedSoFar) := goodIn_app (goodIn_of _ (by decide +kernel)) ggX6_speed_X3_speedSoFar
theorem dX6_speed_0 : decode cX6_speed 0 = .ok (.aload_n 0, 1) := by decide +kernel
theorem dX6_speed_1 : decode cX6_speed 1 = .ok (.getfield 35, 3) := by decide +kernel
theorem dX6_speed_4 : decode cX6_speed 4 = .ok (.invokevirtual 154, 3) := by decide +kernel
theorem dX6_speed_7 : decode cX6_speed 7 = .ok (.ireturn, 1) := by decide +kernel
theorem dX6_mended_0 : decode cX6_mended 0 = .ok (.aload_n 0, 1) := by decide +kernel
theorem dX6_mended_1 : decode cX6_mended 1 = .ok (.getfield 35, 3) := by decide +kernel
theorem dX6_mended_4 : decode cX6_mended 4 = .ok (.getfield 157, 3) := by decide +kernel
theorem dX6_mended_7 : decode cX6_mended 7 = .ok (.ireturn, 1) := by decide +kernel
set_option maxRecDepth 20000 in
theorem ggX6_end_X5_isFull : GoodIn wsX6_end wsX5_isFull := goodIn_r _ [10, 11, 98, 99] (by decide +kernel) (by decide +kernel)
set_option maxRecDepth 20000 in
theorem gX6_end_X5_isFull : GoodIn wsX6_end (wsV RX6 160 RX5 yX5_isFull wsX5_isFull) := goodIn_app (goodIn_of _ (by decide +kernel)) ggX6_end_X5_isFull
set_option maxRecDepth 20000 in
theorem ggX6_end_X4_review : GoodIn wsX6_end wsX4_review := goodIn_r _ [16, 17, 18, 19, 15, 20, 21, 22, 23, 24, 25, 26, 27, 28, 29, 30, 31, 32, 33, 34, 35, 36, 37, 38, 39, 40, 41, 42, 43, 44, 45, 46, 47, 48, 49, 50, 51, 52, 53, 54, 55, 56, 57, 58, 59, 60, 61, 62, 100, 101, 102, 103, 104, 105, 106, 107, 108] (by decide +kernel) (by decide +kernel)
set_option maxRecDepth 20000 in
theorem gX6_end_X4_review : GoodIn wsX6_end (wsV RX6 163 RX4 yX4_review wsX4_review) := goodIn_app (goodIn_of _ (by decide +kernel)) ggX6_end_X4_review
set_option maxRecDepth 20000 in
theorem ggX6_end_X3_speedSoFar : GoodIn wsX6_end wsX3_speedSoFar := goodIn_r _ [67, 68, 69, 70, 71, 72, 66, 73, 74, 75, 76, 77, 35, 36, 37, 38, 39, 109, 110, 111, 112, 113, 114, 108] (by decide +kernel) (by decide +kernel)
set_option maxRecDepth 20000 in
theorem gX6_end_X3_speedSoFar : GoodIn wsX6_end (wsV RX6 154 RX3 yX3_speedSoFar wsX3_speedSoFar) := goodIn_app (goodIn_of _ (by decide +kernel)) ggX6_end_X3_speedSoFar
set_option maxRecDepth 20000 in
theorem ggX6_end_X5_keep : GoodIn wsX6_end wsX5_keep := goodIn_r _ [81, 82, 11, 83, 46, 47, 37, 48, 39, 98, 99, 108] (by decide +kernel) (by decide +kernel)
set_option maxRecDepth 20000 in
theorem gX6_end_X5_keep : GoodIn wsX6_end (wsV RX6 166 RX5 yX5_keep wsX5_keep) := goodIn_app (goodIn_of _ (by decide +kernel)) ggX6_end_X5_keep
set_option maxRecDepth 20000 in
theorem ggX6_end_X3_beginAnew : GoodIn wsX6_end wsX3_beginAnew := goodIn_r _ [87, 88, 74, 89, 68, 109, 110, 111, 112, 113, 114] (by decide +kernel) (by decide +kernel)
set_option maxRecDepth 20000 in
theorem gX6_end_X3_beginAnew : GoodIn wsX6_end (wsV RX6 169 RX3 yX3_beginAnew wsX3_beginAnew) := goodIn_app (goodIn_of _ (by decide +kernel)) ggX6_end_X3_beginAnew
theorem dX6_end_0 : decode cX6_end 0 = .ok (.aload_n 0, 1) := by decide +kernel
theorem dX6_end_1 : decode cX6_end 1 = .ok (.getfield 42, 3) := by decide +kernel
theorem dX6_end_4 : decode cX6_end 4 = .ok (.invokevirtual 160, 3) := by decide +kernel
theorem dX6_end_7 : decode cX6_end 7 = .ok (.ifCond .eq 13, 3) := by decide +kernel
theorem dX6_end_10 : decode cX6_end 10 = .ok (.new 96, 3) := by decide +kernel
theorem dX6_end_13 : decode cX6_end 13 = .ok (.dup, 1) := by decide +kernel
theorem dX6_end_14 : decode cX6_end 14 = .ok (.ldc 161, 2) := by decide +kernel
theorem dX6_end_16 : decode cX6_end 16 = .ok (.invokespecial 100, 3) := by decide +kernel
theorem dX6_end_19 : decode cX6_end 19 = .ok (.athrow, 1) := by decide +kernel
theorem dX6_end_20 : decode cX6_end 20 = .ok (.aload_n 0, 1) := by decide +kernel
theorem dX6_end_21 : decode cX6_end 21 = .ok (.getfield 28, 3) := by decide +kernel
theorem dX6_end_24 : decode cX6_end 24 = .ok (.invokevirtual 163, 3) := by decide +kernel
theorem dX6_end_27 : decode cX6_end 27 = .ok (.istore_n 1, 1) := by decide +kernel
theorem dX6_end_28 : decode cX6_end 28 = .ok (.aload_n 0, 1) := by decide +kernel
theorem dX6_end_29 : decode cX6_end 29 = .ok (.getfield 42, 3) := by decide +kernel
theorem dX6_end_32 : decode cX6_end 32 = .ok (.aload_n 0, 1) := by decide +kernel
theorem dX6_end_33 : decode cX6_end 33 = .ok (.getfield 35, 3) := by decide +kernel
theorem dX6_end_36 : decode cX6_end 36 = .ok (.invokevirtual 154, 3) := by decide +kernel
theorem dX6_end_39 : decode cX6_end 39 = .ok (.invokevirtual 166, 3) := by decide +kernel
theorem dX6_end_42 : decode cX6_end 42 = .ok (.aload_n 0, 1) := by decide +kernel
theorem dX6_end_43 : decode cX6_end 43 = .ok (.getfield 35, 3) := by decide +kernel
theorem dX6_end_46 : decode cX6_end 46 = .ok (.invokevirtual 169, 3) := by decide +kernel
theorem dX6_end_49 : decode cX6_end 49 = .ok (.iload_n 1, 1) := by decide +kernel
theorem dX6_end_50 : decode cX6_end 50 = .ok (.ireturn, 1) := by decide +kernel
set_option maxRecDepth 20000 in
theorem ggX6_count_X6_needLetter : GoodIn wsX6_count wsX6_needLetter := goodIn_ca (goodIn_r _ [5, 6, 7, 8, 9, 4, 10] (by decide +kernel) (by decide +kernel)) (goodIn_sub (fun _ h => List.mem_cons_of_mem _ (List.mem_append_right _ h)) (by decide +kernel))
set_option maxRecDepth 20000 in
theorem gX6_count_X6_needLetter : GoodIn wsX6_count (va_wsS RX6 62 yX6_needLetter wsX6_needLetter) := goodIn_app (goodIn_of _ (by decide +kernel)) ggX6_count_X6_needLetter
set_option maxRecDepth 20000 in
theorem ggX6_count_X1_at : GoodIn wsX6_count wsX1_at := goodIn_r _ [15, 16, 31] (by decide +kernel) (by decide +kernel)
set_option maxRecDepth 20000 in
theorem gX6_count_X1_at : GoodIn wsX6_count (wsV RX6 175 RX1 yX1_at wsX1_at) := goodIn_app (goodIn_of _ (by decide +kernel)) ggX6_count_X1_at
theorem dX6_count_0 : decode cX6_count 0 = .ok (.iload_n 1, 1) := by decide +kernel
theorem dX6_count_1 : decode cX6_count 1 = .ok (.invokestatic 62, 3) := by decide +kernel
theorem dX6_count_4 : decode cX6_count 4 = .ok (.aload_n 0, 1) := by decide +kernel
theorem dX6_count_5 : decode cX6_count 5 = .ok (.getfield 19, 3) := by decide +kernel
theorem dX6_count_8 : decode cX6_count 8 = .ok (.getfield 172, 3) := by decide +kernel
theorem dX6_count_11 : decode cX6_count 11 = .ok (.iload_n 1, 1) := by decide +kernel
theorem dX6_count_12 : decode cX6_count 12 = .ok (.invokevirtual 175, 3) := by decide +kernel
theorem dX6_count_15 : decode cX6_count 15 = .ok (.ireturn, 1) := by decide +kernel
set_option maxRecDepth 20000 in
theorem ggX6_time_X6_needLetter : GoodIn wsX6_time wsX6_needLetter := goodIn_ca (goodIn_r _ [5, 6, 7, 8, 9, 4, 10] (by decide +kernel) (by decide +kernel)) (goodIn_sub (fun _ h => List.mem_cons_of_mem _ (List.mem_append_right _ h)) (by decide +kernel))
set_option maxRecDepth 20000 in
theorem gX6_time_X6_needLetter : GoodIn wsX6_time (va_wsS RX6 62 yX6_needLetter wsX6_needLetter) := goodIn_app (goodIn_of _ (by decide +kernel)) ggX6_time_X6_needLetter
set_option maxRecDepth 20000 in
theorem ggX6_time_X1_at : GoodIn wsX6_time wsX1_at := goodIn_r _ [15, 16, 31] (by decide +kernel) (by decide +kernel)
set_option maxRecDepth 20000 in
theorem gX6_time_X1_at : GoodIn wsX6_time (wsV RX6 175 RX1 yX1_at wsX1_at) := goodIn_app (goodIn_of _ (by decide +kernel)) ggX6_time_X1_at
theorem dX6_time_0 : decode cX6_time 0 = .ok (.iload_n 1, 1) := by decide +kernel
theorem dX6_time_1 : decode cX6_time 1 = .ok (.invokestatic 62, 3) := by decide +kernel
theorem dX6_time_4 : decode cX6_time 4 = .ok (.aload_n 0, 1) := by decide +kernel
theorem dX6_time_5 : decode cX6_time 5 = .ok (.getfield 19, 3) := by decide +kernel
theorem dX6_time_8 : decode cX6_time 8 = .ok (.getfield 178, 3) := by decide +kernel
theorem dX6_time_11 : decode cX6_time 11 = .ok (.iload_n 1, 1) := by decide +kernel
theorem dX6_time_12 : decode cX6_time 12 = .ok (.invokevirtual 175, 3) := by decide +kernel
theorem dX6_time_15 : decode cX6_time 15 = .ok (.ireturn, 1) := by decide +kernel
set_option maxRecDepth 20000 in
theorem ggX6_share_X6_needLetter : GoodIn wsX6_share wsX6_needLetter := goodIn_ca (goodIn_r _ [5, 6, 7, 8, 9, 4, 10] (by decide +kernel) (by decide +kernel)) (goodIn_sub (fun _ h => List.mem_cons_of_mem _ (List.mem_append_right _ h)) (by decide +kernel))
set_option maxRecDepth 20000 in
theorem gX6_share_X6_needLetter : GoodIn wsX6_share (va_wsS RX6 62 yX6_needLetter wsX6_needLetter) := goodIn_app (goodIn_of _ (by decide +kernel)) ggX6_share_X6_needLetter
set_option maxRecDepth 20000 in
theorem ggX6_share_X1_at : GoodIn wsX6_share wsX1_at := goodIn_r _ [15, 16, 31] (by decide +kernel) (by decide +kernel)
set_option maxRecDepth 20000 in
theorem gX6_share_X1_at : GoodIn wsX6_share (wsV RX6 175 RX1 yX1_at wsX1_at) := goodIn_app (goodIn_of _ (by decide +kernel)) ggX6_share_X1_at
theorem dX6_share_0 : decode cX6_share 0 = .ok (.iload_n 1, 1) := by decide +kernel
theorem dX6_share_1 : decode cX6_share 1 = .ok (.invokestatic 62, 3) := by decide +kernel
theorem dX6_share_4 : decode cX6_share 4 = .ok (.aload_n 0, 1) := by decide +kernel
theorem dX6_share_5 : decode cX6_share 5 = .ok (.getfield 19, 3) := by decide +kernel
theorem dX6_share_8 : decode cX6_share 8 = .ok (.getfield 181, 3) := by decide +kernel
theorem dX6_share_11 : decode cX6_share 11 = .ok (.iload_n 1, 1) := by decide +kernel
theorem dX6_share_12 : decode cX6_share 12 = .ok (.invokevirtual 175, 3) := by decide +kernel
theorem dX6_share_15 : decode cX6_share 15 = .ok (.ireturn, 1) := by decide +kernel
set_option maxRecDepth 20000 in
theorem ggX6_pairTime_X6_needLetter : GoodIn wsX6_pairTime wsX6_needLetter := goodIn_ca (goodIn_r _ [5, 6, 7, 8, 9, 4, 10] (by decide +kernel) (by decide +kernel)) (goodIn_sub (fun _ h => List.mem_cons_of_mem _ (List.mem_append_right _ h)) (by decide +kernel))
set_option maxRecDepth 20000 in
theorem gX6_pairTime_X6_needLetter : GoodIn wsX6_pairTime (va_wsS RX6 62 yX6_needLetter wsX6_needLetter) := goodIn_app (goodIn_of _ (by decide +kernel)) ggX6_pairTime_X6_needLetter
set_option maxRecDepth 20000 in
theorem ggX6_pairTime_X2_timeOfPair : GoodIn wsX6_pairTime wsX2_timeOfPair := goodIn_r _ [15, 16, 17, 18, 14, 19, 20, 21, 22, 23, 24, 25, 34, 35, 36, 37, 38, 39, 40] (by decide +kernel) (by decide +kernel)
set_option maxRecDepth 20000 in
theorem gX6_pairTime_X2_timeOfPair : GoodIn wsX6_pairTime (wsV RX6 184 RX2 yX2_timeOfPair wsX2_timeOfPair) := goodIn_app (goodIn_of _ (by decide +kernel)) ggX6_pairTime_X2_timeOfPair
theorem dX6_pairTime_0 : decode cX6_pairTime 0 = .ok (.iload_n 1, 1) := by decide +kernel
theorem dX6_pairTime_1 : decode cX6_pairTime 1 = .ok (.invokestatic 62, 3) := by decide +kernel
theorem dX6_pairTime_4 : decode cX6_pairTime 4 = .ok (.iload_n 2, 1) := by decide +kernel
theorem dX6_pairTime_5 : decode cX6_pairTime 5 = .ok (.invokestatic 62, 3) := by decide +kernel
theorem dX6_pairTime_8 : decode cX6_pairTime 8 = .ok (.aload_n 0, 1) := by decide +kernel
theorem dX6_pairTime_9 : decode cX6_pairTime 9 = .ok (.getfield 19, 3) := by decide +kernel
theorem dX6_pairTime_12 : decode cX6_pairTime 12 = .ok (.iload_n 1, 1) := by decide +kernel
theorem dX6_pairTime_13 : decode cX6_pairTime 13 = .ok (.iload_n 2, 1) := by decide +kernel
theorem dX6_pairTime_14 : decode cX6_pairTime 14 = .ok (.invokevirtual 184, 3) := by decide +kernel
theorem dX6_pairTime_17 : decode cX6_pairTime 17 = .ok (.ireturn, 1) := by decide +kernel
set_option maxRecDepth 20000 in
theorem ggX6_errors_X6_isWithin : GoodIn wsX6_errors wsX6_isWithin := goodIn_r _ [7] (by decide +kernel) (by decide +kernel)
set_option maxRecDepth 20000 in
theorem gX6_errors_X6_isWithin : GoodIn wsX6_errors (va_wsS RX6 66 yX6_isWithin wsX6_isWithin) := goodIn_app (goodIn_of _ (by decide +kernel)) ggX6_errors_X6_isWithin
set_option maxRecDepth 20000 in
theorem ggX6_errors_X1_at : GoodIn wsX6_errors wsX1_at := goodIn_r _ [12, 13, 22] (by decide +kernel) (by decide +kernel)
set_option maxRecDepth 20000 in
theorem gX6_errors_X1_at : GoodIn wsX6_errors (wsV RX6 175 RX1 yX1_at wsX1_at) := goodIn_app (goodIn_of _ (by decide +kernel)) ggX6_errors_X1_at
theorem dX6_errors_0 : decode cX6_errors 0 = .ok (.iload_n 1, 1) := by decide +kernel
theorem dX6_errors_1 : decode cX6_errors 1 = .ok (.iconst 0, 1) := by decide +kernel
theorem dX6_errors_2 : decode cX6_errors 2 = .ok (.iconst 4, 1) := by decide +kernel
theorem dX6_errors_3 : decode cX6_errors 3 = .ok (.invokestatic 66, 3) := by decide +kernel
theorem dX6_errors_6 : decode cX6_errors 6 = .ok (.ifCond .ne 13, 3) := by decide +kernel
theorem dX6_errors_9 : decode cX6_errors 9 = .ok (.new 107, 3) := by decide +kernel
theorem dX6_errors_12 : decode cX6_errors 12 = .ok (.dup, 1) := by decide +kernel
theorem dX6_errors_13 : decode cX6_errors 13 = .ok (.ldc 187, 2) := by decide +kernel
theorem dX6_errors_15 : decode cX6_errors 15 = .ok (.invokespecial 111, 3) := by decide +kernel
theorem dX6_errors_18 : decode cX6_errors 18 = .ok (.athrow, 1) := by decide +kernel
theorem dX6_errors_19 : decode cX6_errors 19 = .ok (.aload_n 0, 1) := by decide +kernel
theorem dX6_errors_20 : decode cX6_errors 20 = .ok (.getfield 51, 3) := by decide +kernel
theorem dX6_errors_23 : decode cX6_errors 23 = .ok (.iload_n 1, 1) := by decide +kernel
theorem dX6_errors_24 : decode cX6_errors 24 = .ok (.invokevirtual 175, 3) := by decide +kernel
theorem dX6_errors_27 : decode cX6_errors 27 = .ok (.ireturn, 1) := by decide +kernel
set_option maxRecDepth 20000 in
theorem ggX6_errorsOf_X6_isWithin : GoodIn wsX6_errorsOf wsX6_isWithin := goodIn_r _ [7] (by decide +kernel) (by decide +kernel)
set_option maxRecDepth 20000 in
theorem gX6_errorsOf_X6_isWithin : GoodIn wsX6_errorsOf (va_wsS RX6 66 yX6_isWithin wsX6_isWithin) := goodIn_app (goodIn_of _ (by decide +kernel)) ggX6_errorsOf_X6_isWithin
set_option maxRecDepth 20000 in
theorem ggX6_errorsOf_X1_at : GoodIn wsX6_errorsOf wsX1_at := goodIn_r _ [12, 13, 22] (by decide +kernel) (by decide +kernel)
set_option maxRecDepth 20000 in
theorem gX6_errorsOf_X1_at : GoodIn wsX6_errorsOf (wsV RX6 175 RX1 yX1_at wsX1_at) := goodIn_app (goodIn_of _ (by decide +kernel)) ggX6_errorsOf_X1_at
theorem dX6_errorsOf_0 : decode cX6_errorsOf 0 = .ok (.iload_n 1, 1) := by decide +kernel
theorem dX6_errorsOf_1 : decode cX6_errorsOf 1 = .ok (.iconst 0, 1) := by decide +kernel
theorem dX6_errorsOf_2 : decode cX6_errorsOf 2 = .ok (.bipush 7, 2) := by decide +kernel
theorem dX6_errorsOf_4 : decode cX6_errorsOf 4 = .ok (.invokestatic 66, 3) := by decide +kernel
theorem dX6_errorsOf_7 : decode cX6_errorsOf 7 = .ok (.ifCond .ne 13, 3) := by decide +kernel
theorem dX6_errorsOf_10 : decode cX6_errorsOf 10 = .ok (.new 107, 3) := by decide +kernel
theorem dX6_errorsOf_13 : decode cX6_errorsOf 13 = .ok (.dup, 1) := by decide +kernel
theorem dX6_errorsOf_14 : decode cX6_errorsOf 14 = .ok (.ldc 189, 2) := by decide +kernel
theorem dX6_errorsOf_16 : decode cX6_errorsOf 16 = .ok (.invokespecial 111, 3) := by decide +kernel
theorem dX6_errorsOf_19 : decode cX6_errorsOf 19 = .ok (.athrow, 1) := by decide +kernel
theorem dX6_errorsOf_20 : decode cX6_errorsOf 20 = .ok (.aload_n 0, 1) := by decide +kernel
theorem dX6_errorsOf_21 : decode cX6_errorsOf 21 = .ok (.getfield 55, 3) := by decide +kernel
theorem dX6_errorsOf_24 : decode cX6_errorsOf 24 = .ok (.iload_n 1, 1) := by decide +kernel
theorem dX6_errorsOf_25 : decode cX6_errorsOf 25 = .ok (.invokevirtual 175, 3) := by decide +kernel
theorem dX6_errorsOf_28 : decode cX6_errorsOf 28 = .ok (.ireturn, 1) := by decide +kernel
set_option maxRecDepth 20000 in
theorem ggX6_wish_X6_isWithin : GoodIn wsX6_wish wsX6_isWithin := goodIn_r _ [7] (by decide +kernel) (by decide +kernel)
set_option maxRecDepth 20000 in
theorem gX6_wish_X6_isWithin : GoodIn wsX6_wish (va_wsS RX6 66 yX6_isWithin wsX6_isWithin) := goodIn_app (goodIn_of _ (by decide +kernel)) ggX6_wish_X6_isWithin
theorem dX6_wish_0 : decode cX6_wish 0 = .ok (.iload_n 1, 1) := by decide +kernel
theorem dX6_wish_1 : decode cX6_wish 1 = .ok (.iconst 1, 1) := by decide +kernel
theorem dX6_wish_2 : decode cX6_wish 2 = .ok (.sipush 5000, 3) := by decide +kernel
theorem dX6_wish_5 : decode cX6_wish 5 = .ok (.invokestatic 66, 3) := by decide +kernel
theorem dX6_wish_8 : decode cX6_wish 8 = .ok (.ifCond .eq 14, 3) := by decide +kernel
theorem dX6_wish_11 : decode cX6_wish 11 = .ok (.iload_n 2, 1) := by decide +kernel
theorem dX6_wish_12 : decode cX6_wish 12 = .ok (.iconst 0, 1) := by decide +kernel
theorem dX6_wish_13 : decode cX6_wish 13 = .ok (.sipush 10000, 3) := by decide +kernel
theorem dX6_wish_16 : decode cX6_wish 16 = .ok (.invokestatic 66, 3) := by decide +kernel
theorem dX6_wish_19 : decode cX6_wish 19 = .ok (.ifCond .ne 13, 3) := by decide +kernel
theorem dX6_wish_22 : decode cX6_wish 22 = .ok (.new 107, 3) := by decide +kernel
theorem dX6_wish_25 : decode cX6_wish 25 = .ok (.dup, 1) := by decide +kernel
theorem dX6_wish_26 : decode cX6_wish 26 = .ok (.ldc 191, 2) := by decide +kernel
theorem dX6_wish_28 : decode cX6_wish 28 = .ok (.invokespecial 111, 3) := by decide +kernel
theorem dX6_wish_31 : decode cX6_wish 31 = .ok (.athrow, 1) := by decide +kernel
theorem dX6_wish_32 : decode cX6_wish 32 = .ok (.aload_n 0, 1) := by decide +kernel
theorem dX6_wish_33 : decode cX6_wish 33 = .ok (.getfield 19, 3) := by decide +kernel
theorem dX6_wish_36 : decode cX6_wish 36 = .ok (.iload_n 1, 1) := by decide +kernel
theorem dX6_wish_37 : decode cX6_wish 37 = .ok (.putfield 193, 3) := by decide +kernel
theorem dX6_wish_40 : decode cX6_wish 40 = .ok (.aload_n 0, 1) := by decide +kernel
theorem dX6_wish_41 : decode cX6_wish 41 = .ok (.getfield 19, 3) := by decide +kernel
theorem dX6_wish_44 : decode cX6_wish 44 = .ok (.iload_n 2, 1) := by decide +kernel
theorem dX6_wish_45 : decode cX6_wish 45 = .ok (.putfield 196, 3) := by decide +kernel
theorem dX6_wish_48 : decode cX6_wish 48 = .ok (.return_, 1) := by decide +kernel
set_option maxRecDepth 20000 in
theorem ggX6_isIn_X6_needLetter : GoodIn wsX6_isIn wsX6_needLetter := goodIn_ca (goodIn_r _ [5, 6, 7, 8, 9, 4, 10] (by decide +kernel) (by decide +kernel)) (goodIn_sub (fun _ h => List.mem_cons_of_mem _ (List.mem_append_right _ h)) (by decide +kernel))
set_option maxRecDepth 20000 in
theorem gX6_isIn_X6_needLetter : GoodIn wsX6_isIn (va_wsS RX6 62 yX6_needLetter wsX6_needLetter) := goodIn_app (goodIn_of _ (by decide +kernel)) ggX6_isIn_X6_needLetter
set_option maxRecDepth 20000 in
theorem ggX6_isIn_X4_contains : GoodIn wsX6_isIn wsX4_contains := goodIn_r _ [15, 16, 25, 26] (by decide +kernel) (by decide +kernel)
set_option maxRecDepth 20000 in
theorem gX6_isIn_X4_contains : GoodIn wsX6_isIn (wsV RX6 199 RX4 yX4_contains wsX4_contains) := goodIn_app (goodIn_of _ (by decide +kernel)) ggX6_isIn_X4_contains
theorem dX6_isIn_0 : decode cX6_isIn 0 = .ok (.iload_n 1, 1) := by decide +kernel
theorem dX6_isIn_1 : decode cX6_isIn 1 = .ok (.invokestatic 62, 3) := by decide +kernel
theorem dX6_isIn_4 : decode cX6_isIn 4 = .ok (.aload_n 0, 1) := by decide +kernel
theorem dX6_isIn_5 : decode cX6_isIn 5 = .ok (.getfield 28, 3) := by decide +kernel
theorem dX6_isIn_8 : decode cX6_isIn 8 = .ok (.iload_n 1, 1) := by decide +kernel
theorem dX6_isIn_9 : decode cX6_isIn 9 = .ok (.invokevirtual 199, 3) := by decide +kernel
theorem dX6_isIn_12 : decode cX6_isIn 12 = .ok (.ireturn, 1) := by decide +kernel
set_option maxRecDepth 20000 in
theorem ggX6_isGood_X6_needLetter : GoodIn wsX6_isGood wsX6_needLetter := goodIn_ca (goodIn_r _ [5, 6, 7, 8, 9, 4, 10] (by decide +kernel) (by decide +kernel)) (goodIn_sub (fun _ h => List.mem_cons_of_mem _ (List.mem_append_right _ h)) (by decide +kernel))
set_option maxRecDepth 20000 in
theorem gX6_isGood_X6_needLetter : GoodIn wsX6_isGood (va_wsS RX6 62 yX6_needLetter wsX6_needLetter) := goodIn_app (goodIn_of _ (by decide +kernel)) ggX6_isGood_X6_needLetter
set_option maxRecDepth 20000 in
theorem ggX6_isGood_X2_fulfilsWish : GoodIn wsX6_isGood wsX2_fulfilsWish := goodIn_r _ [15, 16, 17, 18, 19, 20, 21, 22, 23, 24, 25, 26, 35, 36, 37, 38, 39, 40, 41] (by decide +kernel) (by decide +kernel)
set_option maxRecDepth 20000 in
theorem gX6_isGood_X2_fulfilsWish : GoodIn wsX6_isGood (wsV RX6 203 RX2 yX2_fulfilsWish wsX2_fulfilsWish) := goodIn_app (goodIn_of _ (by decide +kernel)) ggX6_isGood_X2_fulfilsWish
theorem dX6_isGood_0 : decode cX6_isGood 0 = .ok (.iload_n 1, 1) := by decide +kernel
theorem dX6_isGood_1 : decode cX6_isGood 1 = .ok (.invokestatic 62, 3) := by decide +kernel
theorem dX6_isGood_4 : decode cX6_isGood 4 = .ok (.aload_n 0, 1) := by decide +kernel
theorem dX6_isGood_5 : decode cX6_isGood 5 = .ok (.getfield 19, 3) := by decide +kernel
theorem dX6_isGood_8 : decode cX6_isGood 8 = .ok (.iload_n 1, 1) := by decide +kernel
theorem dX6_isGood_9 : decode cX6_isGood 9 = .ok (.invokevirtual 203, 3) := by decide +kernel
theorem dX6_isGood_12 : decode cX6_isGood 12 = .ok (.ireturn, 1) := by decide +kernel
set_option maxRecDepth 20000 in
theorem ggX6_weakest_X4_weakestOfAll : GoodIn wsX6_weakest wsX4_weakestOfAll := goodIn_r _ [6, 7, 8, 9, 10, 5, 11, 12, 13, 14, 15, 16, 17, 18, 19, 20, 21, 22, 23, 24, 25, 34, 35, 36, 37, 38, 39, 40, 41, 42] (by decide +kernel) (by decide +kernel)
set_option maxRecDepth 20000 in
theorem gX6_weakest_X4_weakestOfAll : GoodIn wsX6_weakest (wsV RX6 112 RX4 yX4_weakestOfAll wsX4_weakestOfAll) := goodIn_app (goodIn_of _ (by decide +kernel)) ggX6_weakest_X4_weakestOfAll
theorem dX6_weakest_0 : decode cX6_weakest 0 = .ok (.aload_n 0, 1) := by decide +kernel
theorem dX6_weakest_1 : decode cX6_weakest 1 = .ok (.getfield 28, 3) := by decide +kernel
theorem dX6_weakest_4 : decode cX6_weakest 4 = .ok (.invokevirtual 112, 3) := by decide +kernel
theorem dX6_weakest_7 : decode cX6_weakest 7 = .ok (.ireturn, 1) := by decide +kernel
theorem dX6_lessons_0 : decode cX6_lessons 0 = .ok (.aload_n 0, 1) := by decide +kernel
theorem dX6_lessons_1 : decode cX6_lessons 1 = .ok (.getfield 42, 3) := by decide +kernel
theorem dX6_lessons_4 : decode cX6_lessons 4 = .ok (.getfield 206, 3) := by decide +kernel
theorem dX6_lessons_7 : decode cX6_lessons 7 = .ok (.ireturn, 1) := by decide +kernel
set_option maxRecDepth 20000 in
theorem ggX6_speedOf_X6_isWithin : GoodIn wsX6_speedOf wsX6_isWithin := goodIn_r _ [7] (by decide +kernel) (by decide +kernel)
set_option maxRecDepth 20000 in
theorem gX6_speedOf_X6_isWithin : GoodIn wsX6_speedOf (va_wsS RX6 66 yX6_isWithin wsX6_isWithin) := goodIn_app (goodIn_of _ (by decide +kernel)) ggX6_speedOf_X6_isWithin
set_option maxRecDepth 20000 in
theorem ggX6_speedOf_X1_at : GoodIn wsX6_speedOf wsX1_at := goodIn_r _ [12, 13, 24] (by decide +kernel) (by decide +kernel)
set_option maxRecDepth 20000 in
theorem gX6_speedOf_X1_at : GoodIn wsX6_speedOf (wsV RX6 175 RX1 yX1_at wsX1_at) := goodIn_app (goodIn_of _ (by decide +kernel)) ggX6_speedOf_X1_at
theorem dX6_speedOf_0 : decode cX6_speedOf 0 = .ok (.iload_n 1, 1) := by decide +kernel
theorem dX6_speedOf_1 : decode cX6_speedOf 1 = .ok (.iconst 0, 1) := by decide +kernel
theorem dX6_speedOf_2 : decode cX6_speedOf 2 = .ok (.aload_n 0, 1) := by decide +kernel
theorem dX6_speedOf_3 : decode cX6_speedOf 3 = .ok (.getfield 42, 3) := by decide +kernel
theorem dX6_speedOf_6 : decode cX6_speedOf 6 = .ok (.getfield 206, 3) := by decide +kernel
theorem dX6_speedOf_9 : decode cX6_speedOf 9 = .ok (.iconst 1, 1) := by decide +kernel
theorem dX6_speedOf_10 : decode cX6_speedOf 10 = .ok (.isub, 1) := by decide +kernel
theorem dX6_speedOf_11 : decode cX6_speedOf 11 = .ok (.invokestatic 66, 3) := by decide +kernel
theorem dX6_speedOf_14 : decode cX6_speedOf 14 = .ok (.ifCond .ne 13, 3) := by decide +kernel
theorem dX6_speedOf_17 : decode cX6_speedOf 17 = .ok (.new 70, 3) := by decide +kernel
theorem dX6_speedOf_20 : decode cX6_speedOf 20 = .ok (.dup, 1) := by decide +kernel
theorem dX6_speedOf_21 : decode cX6_speedOf 21 = .ok (.ldc 207, 2) := by decide +kernel
theorem dX6_speedOf_23 : decode cX6_speedOf 23 = .ok (.invokespecial 74, 3) := by decide +kernel
theorem dX6_speedOf_26 : decode cX6_speedOf 26 = .ok (.athrow, 1) := by decide +kernel
theorem dX6_speedOf_27 : decode cX6_speedOf 27 = .ok (.aload_n 0, 1) := by decide +kernel
theorem dX6_speedOf_28 : decode cX6_speedOf 28 = .ok (.getfield 42, 3) := by decide +kernel
theorem dX6_speedOf_31 : decode cX6_speedOf 31 = .ok (.getfield 209, 3) := by decide +kernel
theorem dX6_speedOf_34 : decode cX6_speedOf 34 = .ok (.iload_n 1, 1) := by decide +kernel
theorem dX6_speedOf_35 : decode cX6_speedOf 35 = .ok (.invokevirtual 175, 3) := by decide +kernel
theorem dX6_speedOf_38 : decode cX6_speedOf 38 = .ok (.ireturn, 1) := by decide +kernel
set_option maxRecDepth 20000 in
theorem ggX6_falls_X5_fallsAtTheEnd : GoodIn wsX6_falls wsX5_fallsAtTheEnd := goodIn_r _ [6, 7, 8, 9, 10, 11, 12, 13, 14, 23, 24, 25] (by decide +kernel) (by decide +kernel)
set_option maxRecDepth 20000 in
theorem gX6_falls_X5_fallsAtTheEnd : GoodIn wsX6_falls (wsV RX6 212 RX5 yX5_fallsAtTheEnd wsX5_fallsAtTheEnd) := goodIn_app (goodIn_of _ (by decide +kernel)) ggX6_falls_X5_fallsAtTheEnd
theorem dX6_falls_0 : decode cX6_falls 0 = .ok (.aload_n 0, 1) := by decide +kernel
theorem dX6_falls_1 : decode cX6_falls 1 = .ok (.getfield 42, 3) := by decide +kernel
theorem dX6_falls_4 : decode cX6_falls 4 = .ok (.invokevirtual 212, 3) := by decide +kernel
theorem dX6_falls_7 : decode cX6_falls 7 = .ok (.ireturn, 1) := by decide +kernel
set_option maxRecDepth 20000 in
theorem ggX6_endDay_X2_halveCounts : GoodIn wsX6_endDay wsX2_halveCounts := goodIn_r _ [7, 8, 9, 10, 11, 12, 13, 14, 15, 16, 17, 18, 27, 28, 29, 30, 31, 32, 33] (by decide +kernel) (by decide +kernel)
set_option maxRecDepth 20000 in
theorem gX6_endDay_X2_halveCounts : GoodIn wsX6_endDay (wsV RX6 215 RX2 yX2_halveCounts wsX2_halveCounts) := goodIn_app (goodIn_of _ (by decide +kernel)) ggX6_endDay_X2_halveCounts
theorem dX6_endDay_0 : decode cX6_endDay 0 = .ok (.aload_n 0, 1) := by decide +kernel
theorem dX6_endDay_1 : decode cX6_endDay 1 = .ok (.getfield 58, 3) := by decide +kernel
theorem dX6_endDay_4 : decode cX6_endDay 4 = .ok (.istore_n 1, 1) := by decide +kernel
theorem dX6_endDay_5 : decode cX6_endDay 5 = .ok (.aload_n 0, 1) := by decide +kernel
theorem dX6_endDay_6 : decode cX6_endDay 6 = .ok (.getfield 19, 3) := by decide +kernel
theorem dX6_endDay_9 : decode cX6_endDay 9 = .ok (.invokevirtual 215, 3) := by decide +kernel
theorem dX6_endDay_12 : decode cX6_endDay 12 = .ok (.aload_n 0, 1) := by decide +kernel
theorem dX6_endDay_13 : decode cX6_endDay 13 = .ok (.iconst 0, 1) := by decide +kernel
theorem dX6_endDay_14 : decode cX6_endDay 14 = .ok (.putfield 58, 3) := by decide +kernel
theorem dX6_endDay_17 : decode cX6_endDay 17 = .ok (.iload_n 1, 1) := by decide +kernel
theorem dX6_endDay_18 : decode cX6_endDay 18 = .ok (.ireturn, 1) := by decide +kernel
theorem dX6_strokes_0 : decode cX6_strokes 0 = .ok (.aload_n 0, 1) := by decide +kernel
theorem dX6_strokes_1 : decode cX6_strokes 1 = .ok (.getfield 58, 3) := by decide +kernel
theorem dX6_strokes_4 : decode cX6_strokes 4 = .ok (.ireturn, 1) := by decide +kernel
set_option maxRecDepth 20000 in
theorem ggX6_kindOfStroke_X3_typedBefore : GoodIn wsX6_kindOfStroke wsX3_typedBefore := goodIn_r _ [7, 8, 9, 10, 11, 12, 13, 14, 15, 54, 55, 56, 57, 58, 59, 60] (by decide +kernel) (by decide +kernel)
set_option maxRecDepth 20000 in
theorem gX6_kindOfStroke_X3_typedBefore : GoodIn wsX6_kindOfStroke (wsV RX6 218 RX3 yX3_typedBefore wsX3_typedBefore) := goodIn_app (goodIn_of _ (by decide +kernel)) ggX6_kindOfStroke_X3_typedBefore
set_option maxRecDepth 20000 in
theorem ggX6_kindOfStroke_X3_letterAt : GoodIn wsX6_kindOfStroke wsX3_letterAt := goodIn_r _ [19, 20, 21, 10, 11, 12, 13, 14, 15, 54, 55, 56, 57, 58, 59, 60] (by decide +kernel) (by decide +kernel)
set_option maxRecDepth 20000 in
theorem gX6_kindOfStroke_X3_letterAt : GoodIn wsX6_kindOfStroke (wsV RX6 121 RX3 yX3_letterAt wsX3_letterAt) := goodIn_app (goodIn_of _ (by decide +kernel)) ggX6_kindOfStroke_X3_letterAt
set_option maxRecDepth 20000 in
theorem ggX6_kindOfStroke_X0_touch : GoodIn wsX6_kindOfStroke wsX0_touch := goodIn_r _ [26, 27, 28, 29, 30, 31, 32, 33, 25, 34, 35, 36, 11, 12, 13, 14, 15, 37, 38, 39, 40, 61, 62, 60] (by decide +kernel) (by decide +kernel)
set_option maxRecDepth 20000 in
theorem gX6_kindOfStroke_X0_touch : GoodIn wsX6_kindOfStroke (wsV RX6 85 RX0 yX0_touch wsX0_touch) := goodIn_app (goodIn_of _ (by decide +kernel)) ggX6_kindOfStroke_X0_touch
set_option maxRecDepth 20000 in
theorem ggX6_kindOfStroke_X0_mirrorOf : GoodIn wsX6_kindOfStroke wsX0_mirrorOf := goodIn_r _ [44, 45, 37, 38, 39, 25, 40, 35, 36, 11, 12, 13, 14, 15, 31, 32, 33, 34, 61, 62, 60] (by decide +kernel) (by decide +kernel)
set_option maxRecDepth 20000 in
theorem gX6_kindOfStroke_X0_mirrorOf : GoodIn wsX6_kindOfStroke (wsV RX6 89 RX0 yX0_mirrorOf wsX0_mirrorOf) := goodIn_app (goodIn_of _ (by decide +kernel)) ggX6_kindOfStroke_X0_mirrorOf
theorem dX6_kindOfStroke_0 : decode cX6_kindOfStroke 0 = .ok (.iload_n 1, 1) := by decide +kernel
theorem dX6_kindOfStroke_1 : decode cX6_kindOfStroke 1 = .ok (.iload_n 2, 1) := by decide +kernel
theorem dX6_kindOfStroke_2 : decode cX6_kindOfStroke 2 = .ok (.if_icmp .ne 5, 3) := by decide +kernel
theorem dX6_kindOfStroke_5 : decode cX6_kindOfStroke 5 = .ok (.iconst (-1), 1) := by decide +kernel
theorem dX6_kindOfStroke_6 : decode cX6_kindOfStroke 6 = .ok (.ireturn, 1) := by decide +kernel
theorem dX6_kindOfStroke_7 : decode cX6_kindOfStroke 7 = .ok (.iload_n 1, 1) := by decide +kernel
theorem dX6_kindOfStroke_8 : decode cX6_kindOfStroke 8 = .ok (.aload_n 0, 1) := by decide +kernel
theorem dX6_kindOfStroke_9 : decode cX6_kindOfStroke 9 = .ok (.getfield 35, 3) := by decide +kernel
theorem dX6_kindOfStroke_12 : decode cX6_kindOfStroke 12 = .ok (.invokevirtual 218, 3) := by decide +kernel
theorem dX6_kindOfStroke_15 : decode cX6_kindOfStroke 15 = .ok (.if_icmp .ne 5, 3) := by decide +kernel
theorem dX6_kindOfStroke_18 : decode cX6_kindOfStroke 18 = .ok (.iconst 0, 1) := by decide +kernel
theorem dX6_kindOfStroke_19 : decode cX6_kindOfStroke 19 = .ok (.ireturn, 1) := by decide +kernel
theorem dX6_kindOfStroke_20 : decode cX6_kindOfStroke 20 = .ok (.iload_n 1, 1) := by decide +kernel
theorem dX6_kindOfStroke_21 : decode cX6_kindOfStroke 21 = .ok (.aload_n 0, 1) := by decide +kernel
theorem dX6_kindOfStroke_22 : decode cX6_kindOfStroke 22 = .ok (.getfield 35, 3) := by decide +kernel
theorem dX6_kindOfStroke_25 : decode cX6_kindOfStroke 25 = .ok (.aload_n 0, 1) := by decide +kernel
theorem dX6_kindOfStroke_26 : decode cX6_kindOfStroke 26 = .ok (.getfield 35, 3) := by decide +kernel
theorem dX6_kindOfStroke_29 : decode cX6_kindOfStroke 29 = .ok (.getfield 124, 3) := by decide +kernel
theorem dX6_kindOfStroke_32 : decode cX6_kindOfStroke 32 = .ok (.iconst 1, 1) := by decide +kernel
theorem dX6_kindOfStroke_33 : decode cX6_kindOfStroke 33 = .ok (.iadd, 1) := by decide +kernel
theorem dX6_kindOfStroke_34 : decode cX6_kindOfStroke 34 = .ok (.invokevirtual 121, 3) := by decide +kernel
theorem dX6_kindOfStroke_37 : decode cX6_kindOfStroke 37 = .ok (.if_icmp .ne 5, 3) := by decide +kernel
theorem dX6_kindOfStroke_40 : decode cX6_kindOfStroke 40 = .ok (.iconst 1, 1) := by decide +kernel
theorem dX6_kindOfStroke_41 : decode cX6_kindOfStroke 41 = .ok (.ireturn, 1) := by decide +kernel
theorem dX6_kindOfStroke_42 : decode cX6_kindOfStroke 42 = .ok (.aload_n 0, 1) := by decide +kernel
theorem dX6_kindOfStroke_43 : decode cX6_kindOfStroke 43 = .ok (.getfield 10, 3) := by decide +kernel
theorem dX6_kindOfStroke_46 : decode cX6_kindOfStroke 46 = .ok (.iload_n 1, 1) := by decide +kernel
theorem dX6_kindOfStroke_47 : decode cX6_kindOfStroke 47 = .ok (.iload_n 2, 1) := by decide +kernel
theorem dX6_kindOfStroke_48 : decode cX6_kindOfStroke 48 = .ok (.invokevirtual 85, 3) := by decide +kernel
theorem dX6_kindOfStroke_51 : decode cX6_kindOfStroke 51 = .ok (.ifCond .eq 5, 3) := by decide +kernel
theorem dX6_kindOfStroke_54 : decode cX6_kindOfStroke 54 = .ok (.iconst 2, 1) := by decide +kernel
theorem dX6_kindOfStroke_55 : decode cX6_kindOfStroke 55 = .ok (.ireturn, 1) := by decide +kernel
theorem dX6_kindOfStroke_56 : decode cX6_kindOfStroke 56 = .ok (.iload_n 1, 1) := by decide +kernel
theorem dX6_kindOfStroke_57 : decode cX6_kindOfStroke 57 = .ok (.aload_n 0, 1) := by decide +kernel
theorem dX6_kindOfStroke_58 : decode cX6_kindOfStroke 58 = .ok (.getfield 10, 3) := by decide +kernel
theorem dX6_kindOfStroke_61 : decode cX6_kindOfStroke 61 = .ok (.iload_n 2, 1) := by decide +kernel
theorem dX6_kindOfStroke_62 : decode cX6_kindOfStroke 62 = .ok (.invokevirtual 89, 3) := by decide +kernel
theorem dX6_kindOfStroke_65 : decode cX6_kindOfStroke 65 = .ok (.if_icmp .ne 7, 3) := by decide +kernel
theorem dX6_kindOfStroke_68 : decode cX6_kindOfStroke 68 = .ok (.iconst 3, 1) := by decide +kernel
theorem dX6_kindOfStroke_69 : decode cX6_kindOfStroke 69 = .ok (.goto 4, 3) := by decide +kernel
theorem dX6_kindOfStroke_72 : decode cX6_kindOfStroke 72 = .ok (.iconst 4, 1) := by decide +kernel
theorem dX6_kindOfStroke_73 : decode cX6_kindOfStroke 73 = .ok (.ireturn, 1) := by decide +kernel
set_option maxRecDepth 20000 in
theorem ggX6_needLetter_X6_isWithin : GoodIn wsX6_needLetter wsX6_isWithin := goodIn_r _ [6] (by decide +kernel) (by decide +kernel)
set_option maxRecDepth 20000 in
theorem gX6_needLetter_X6_isWithin : GoodIn wsX6_needLetter (va_wsS RX6 66 yX6_isWithin wsX6_isWithin) := goodIn_app (goodIn_of _ (by decide +kernel)) ggX6_needLetter_X6_isWithin
theorem dX6_needLetter_0 : decode cX6_needLetter 0 = .ok (.iload_n 0, 1) := by decide +kernel
theorem dX6_needLetter_1 : decode cX6_needLetter 1 = .ok (.iconst 0, 1) := by decide +kernel
theorem dX6_needLetter_2 : decode cX6_needLetter 2 = .ok (.bipush 25, 2) := by decide +kernel
theorem dX6_needLetter_4 : decode cX6_needLetter 4 = .ok (.invokestatic 66, 3) := by decide +kernel
theorem dX6_needLetter_7 : decode cX6_needLetter 7 = .ok (.ifCond .ne 13, 3) := by decide +kernel
theorem dX6_needLetter_10 : decode cX6_needLetter 10 = .ok (.new 70, 3) := by decide +kernel
theorem dX6_needLetter_13 : decode cX6_needLetter 13 = .ok (.dup, 1) := by decide +kernel
theorem dX6_needLetter_14 : decode cX6_needLetter 14 = .ok (.ldc 221, 2) := by decide +kernel
theorem dX6_needLetter_16 : decode cX6_needLetter 16 = .ok (.invokespecial 74, 3) := by decide +kernel
theorem dX6_needLetter_19 : decode cX6_needLetter 19 = .ok (.athrow, 1) := by decide +kernel
theorem dX6_needLetter_20 : decode cX6_needLetter 20 = .ok (.return_, 1) := by decide +kernel
set_option maxRecDepth 20000 in
theorem ggX6_needMillis_X6_isWithin : GoodIn wsX6_needMillis wsX6_isWithin := goodIn_r _ [6] (by decide +kernel) (by decide +kernel)
set_option maxRecDepth 20000 in
theorem gX6_needMillis_X6_isWithin : GoodIn wsX6_needMillis (va_wsS RX6 66 yX6_isWithin wsX6_isWithin) := goodIn_app (goodIn_of _ (by decide +kernel)) ggX6_needMillis_X6_isWithin
theorem dX6_needMillis_0 : decode cX6_needMillis 0 = .ok (.iload_n 0, 1) := by decide +kernel
theorem dX6_needMillis_1 : decode cX6_needMillis 1 = .ok (.iconst 1, 1) := by decide +kernel
theorem dX6_needMillis_2 : decode cX6_needMillis 2 = .ok (.sipush 5000, 3) := by decide +kernel
theorem dX6_needMillis_5 : decode cX6_needMillis 5 = .ok (.invokestatic 66, 3) := by decide +kernel
theorem dX6_needMillis_8 : decode cX6_needMillis 8 = .ok (.ifCond .ne 13, 3) := by decide +kernel
theorem dX6_needMillis_11 : decode cX6_needMillis 11 = .ok (.new 107, 3) := by decide +kernel
theorem dX6_needMillis_14 : decode cX6_needMillis 14 = .ok (.dup, 1) := by decide +kernel
theorem dX6_needMillis_15 : decode cX6_needMillis 15 = .ok (.ldc 223, 2) := by decide +kernel
theorem dX6_needMillis_17 : decode cX6_needMillis 17 = .ok (.invokespecial 111, 3) := by decide +kernel
theorem dX6_needMillis_20 : decode cX6_needMillis 20 = .ok (.athrow, 1) := by decide +kernel
theorem dX6_needMillis_21 : decode cX6_needMillis 21 = .ok (.return_, 1) := by decide +kernel
theorem dX6_isWithin_0 : decode cX6_isWithin 0 = .ok (.iload_n 0, 1) := by decide +kernel
theorem dX6_isWithin_1 : decode cX6_isWithin 1 = .ok (.iload_n 1, 1) := by decide +kernel
theorem dX6_isWithin_2 : decode cX6_isWithin 2 = .ok (.if_icmp .lt 12, 3) := by decide +kernel
theorem dX6_isWithin_5 : decode cX6_isWithin 5 = .ok (.iload_n 0, 1) := by decide +kernel
theorem dX6_isWithin_6 : decode cX6_isWithin 6 = .ok (.iload_n 2, 1) := by decide +kernel
theorem dX6_isWithin_7 : decode cX6_isWithin 7 = .ok (.if_icmp .gt 7, 3) := by decide +kernel
theorem dX6_isWithin_10 : decode cX6_isWithin 10 = .ok (.iconst 1, 1) := by decide +kernel
theorem dX6_isWithin_11 : decode cX6_isWithin 11 = .ok (.goto 4, 3) := by decide +kernel
theorem dX6_isWithin_14 : decode cX6_isWithin 14 = .ok (.iconst 0, 1) := by decide +kernel
theorem dX6_isWithin_15 : decode cX6_isWithin 15 = .ok (.ireturn, 1) := by decide +kernel
end
section
/-! ===== methods that throw ===== -/
def xI : String := "java/lang/IndexOutOfBoundsException"
def xA : String := "java/lang/IllegalArgumentException"
def xS : String := "java/lang/IllegalStateException"
abbrev xN : List String := ["java/lang/RuntimeException", "java/lang/Exception"]
def bW (v a b : Int32) : Int32 := if v < a then 0 else if b < v then 0 else 1
abbrev TS (l : Launch) (y : MethodName) (ws : List Cond) (rm : Room) (D : va_G) (z : Nat → ClassId) (q : Nat → Nat) (As : List Value) (ok : Prop) (bad : String → Prop) : Prop := vx_Met l y ws rm (va_Pc As (RP D z q [])) (fun a st o t => ok ∧ QR none a st o t) (XK bad) 1 6 (fun _ => False)
abbrev TX (l : Launch) (y : MethodName) (ws : List Cond) (rm : Room) (D : va_G) (z : Nat → ClassId) (q : Nat → Nat) (As : List Value) (w : va_W) (sz : Nat) (w1 : va_W) (v : Option Value) (ok : Prop) (bad : String → Prop) : Prop := vx_Met l y ws rm (va_Pc As (WP D z q w sz)) (fun a st o t => ok ∧ QW D w1 (va_A w sz) v a st o t) (XK bad) 3 18 (va_A w sz)
theorem TS_mk {l : Launch} {y : MethodName} {ws ws' : List Cond} {rm : Room} {cc : ByteArray} {maxL : Nat} {ret : Option FieldType} {D : va_G} {z : Nat → ClassId} {q : Nat → Nat} {As : List Value} {ok : Prop} {bad : String → Prop} (hy : plainName y.cls = true) (hw : ws = Cond.code y cc maxL ret :: ws') (hn : (lg_sl As).length ≤ maxL)
    (body : ∀ (p : Program) (e : Env) (s : State) (m : MethodId) (below : List Frame) (meth : Method) (c : Code), p.tables.exec = Jvm.exec → c.code = cc → meth.sig.returnType = ret → c.maxLocals = maxL → (∀ w ∈ ws, w.before As.toArray s = true) → s.vm.findClass y.cls = some m.cls → meth.locks = false → (∀ x ∈ c.exceptionTable.toList, False) → va_P D vwCl [] s.heap → EV D z q (fun x => s.heap.size ≤ x) s s.heap → va_S (fun x => s.heap.size ≤ x) s.heap s.heap [] → (∀ x : Nat, s.heap.size ≤ x → (fun x => s.heap.size ≤ x) x) →
      ∀ ls : Array Slot, lv_has ls maxL (lv_args 0 As) → W p l e rm s m As.toArray below meth c s.heap [] 0 0 (vx_MQ below (fun a st o t => ok ∧ QR none a st o t) (XK bad) As.toArray s 1 6 (fun _ => False)) (F0 m 0 ls [])) : TS l y ws rm D z q As ok bad := by
  refine vx_ofW (cc := cc) (maxL := maxL) (ret := ret) hy hw ?_
  intro p e s m args below meth c s₁ B hml ht hv
  obtain ⟨rfl, hP, hE⟩ := hv
  rw [lg_entry_eq]
  exact body p e s m below meth c B.exec B.bytes B.returns hml (atoms_spec (ws := ws) B.pre) (findClass_of_methodNamed B.named) B.notSynchronized ht hP hE va_S.rf (fun _ h => h) _ (lv_entry As hn)
theorem TX_mk {l : Launch} {y : MethodName} {ws ws' : List Cond} {rm : Room} {cc : ByteArray} {maxL mc ms : Nat} {ret : Option FieldType} {D : va_G} {z : Nat → ClassId} {q : Nat → Nat} {As : List Value} {w : va_W} {sz : Nat} {Qc : (Nat → Prop) → Array Value → State → Outcome → State → Prop} {XC : String → State → State → Prop} (hy : plainName y.cls = true) (hw : ws = Cond.code y cc maxL ret :: ws') (hn : (lg_sl As).length ≤ maxL)
    (body : ∀ (p : Program) (e : Env) (s : State) (m : MethodId) (below : List Frame) (meth : Method) (c : Code) (A : Nat → Prop), p.tables.exec = Jvm.exec → c.code = cc → meth.sig.returnType = ret → c.maxLocals = maxL → (∀ w ∈ ws, w.before As.toArray s = true) → s.vm.findClass y.cls = some m.cls → meth.locks = false → (∀ x ∈ c.exceptionTable.toList, False) → ∀ H : Heap, H = s.heap → va_P D vwCl w H → va_D A w → EV D z q A s s.heap → va_S A s.heap H [] → (∀ x : Nat, s.heap.size ≤ x → A x) →
      ∀ ls : Array Slot, lv_has ls maxL (lv_args 0 As) → W p l e rm s m As.toArray below meth c H [] 0 0 (vx_MQ below (Qc A) XC As.toArray s mc ms A) (F0 m 0 ls [])) : vx_Met l y ws rm (va_Pc As (WP D z q w sz)) (Qc (va_A w sz)) XC mc ms (va_A w sz) := by
  refine vx_ofW (cc := cc) (maxL := maxL) (ret := ret) hy hw ?_
  intro p e s m args below meth c s₁ B hml ht hv
  obtain ⟨rfl, rfl, hP, hD, hE⟩ := hv
  rw [lg_entry_eq]
  exact body p e s m below meth c (va_A w s.heap.size) B.exec B.bytes B.returns hml (atoms_spec (ws := ws) B.pre) (findClass_of_methodNamed B.named) B.notSynchronized ht s.heap rfl hP hD.self hE va_S.rf (fun _ h => Or.inr h) _ (lv_entry As hn)
section THR
variable {p : Program} {l : Launch} {e : Env} {R : Room} {s : State} {m : MethodId} {args : Array Value} {below : List Frame} {meth : Method} {c : Code} {H : Heap} {locs : List Loc} {cells slots : Nat} {Q : State → Prop}
variable {D : va_G} {z : Nat → ClassId} {q : Nat → Nat} {A : Nat → Prop} {cc bytes : ByteArray} {pc nL maxL index n : Nat} {ls : Array Slot} {Ts ws ws' : List Cond} {own C : String} {y : MethodName} {ret : Option FieldType} {rm : Room} {b : Nat} {As rest st : List Value}
variable {Qc : Array Value → State → Outcome → State → Prop} {mc ms : Nat} {free : Addr → Prop}
theorem ts_v {ok : Prop} {bad : String → Prop} (hx : p.tables.exec = Jvm.exec) (hb : c.code = cc) (hr : meth.sig.returnType = none) (hlocks : meth.locks = false) (hd : decode cc pc = .ok (.return_, 1)) (hok : ok) :
    W p l e R s m args below meth c s.heap [] 0 0 (vx_MQ below (fun a st o t => ok ∧ QR none a st o t) (XK bad) args s 1 6 (fun _ => False)) (F0 m pc ls []) :=
  vx_ret (W.widen (Nat.zero_le _) (Nat.zero_le _) (W.vret hx hb hr (fun t ht _ => ⟨hok, rfl, ht⟩) (fun _ h => nomatch h) hd hlocks))
theorem tx_v {w1 w2 : va_W} {ok : Prop} {XC : String → State → State → Prop} (hx : p.tables.exec = Jvm.exec) (hb : c.code = cc) (hr : meth.sig.returnType = none) (hlocks : meth.locks = false) (hP : va_P D vwCl w2 H) (hD : va_D A w2) (hS : va_S A s.heap H locs) (hd : decode cc pc = .ok (.return_, 1)) (hok : ok) (hw : w2 = w1) (hc : cells ≤ mc) (hs : slots ≤ ms) :
    W p l e R s m args below meth c H locs cells slots (vx_MQ below (fun a st o t => ok ∧ QW D w1 A none a st o t) XC args s mc ms A) (F0 m pc ls []) := by
  subst hw
  exact vx_ret (W.widen hc hs (W.vret hx hb hr (fun t ht _ => ⟨hok, ⟨rfl, by rw [ht]; exact hP, hD⟩, hS.F ht⟩) hS.2.2 hd hlocks))
theorem tx_i {w1 w2 : va_W} {v x : Int32} {ok : Prop} {XC : String → State → State → Prop} (hx : p.tables.exec = Jvm.exec) (hb : c.code = cc) (hr : meth.sig.returnType = some .int) (hlocks : meth.locks = false) (hP : va_P D vwCl w2 H) (hD : va_D A w2) (hS : va_S A s.heap H locs) (hd : decode cc pc = .ok (.ireturn, 1)) (hok : ok) (hw : w2 = w1) (hv : x = v) (hc : cells ≤ mc) (hs : slots ≤ ms) :
    W p l e R s m args below meth c H locs cells slots (vx_MQ below (fun a st o t => ok ∧ QW D w1 A (some (.int v)) a st o t) XC args s mc ms A) (F0 m pc ls [.int x]) := by
  subst hw; subst hv
  exact vx_ret (W.widen hc hs (W.iret hx hb hr (fun t ht _ => ⟨hok, ⟨rfl, by rw [ht]; exact hP, hD⟩, hS.F ht⟩) hS.2.2 hd hlocks))
theorem tx_z {w1 w2 : va_W} {v x : Int32} {ok : Prop} {XC : String → State → State → Prop} (hx : p.tables.exec = Jvm.exec) (hb : c.code = cc) (hr : meth.sig.returnType = some .boolean) (hlocks : meth.locks = false) (hn : narrow .boolean (.int x) = .int x) (hP : va_P D vwCl w2 H) (hD : va_D A w2) (hS : va_S A s.heap H locs) (hd : decode cc pc = .ok (.ireturn, 1)) (hok : ok) (hw : w2 = w1) (hv : x = v) (hc : cells ≤ mc) (hs : slots ≤ ms) :
    W p l e R s m args below meth c H locs cells slots (vx_MQ below (fun a st o t => ok ∧ QW D w1 A (some (.int v)) a st o t) XC args s mc ms A) (F0 m pc ls [.int x]) := by
  subst hw; subst hv
  exact vx_ret (W.widen hc hs (W.zret hx hb hr hn (fun t ht _ => ⟨hok, ⟨rfl, by rw [ht]; exact hP, hD⟩, hS.F ht⟩) hS.2.2 hd hlocks))
/-- a call of a static method that may throw, ahead of all writes; what it throws goes on to the caller -/
theorem tsS {wx : va_W} {ok : Prop} {bad bad1 : String → Prop} (S : CallFix p m c cc nL s args Ts own) (hM : TS l y ws rm D z q As ok bad1) (cw : CallB R s args own index y bytes maxL none ws rm 1 6 n ∧ (Cond.static y).before args s = true)
    (hE : EV D z q A s s.heap) (hS : va_S A s.heap H []) (hA : ∀ x : Nat, s.heap.size ≤ x → A x) (hP : va_P D vwCl wx H) (hH0 : H = s.heap) (hout : ∀ x ∈ c.exceptionTable.toList, False) (hlocks : meth.locks = false)
    (hn : As.length = n) (hsz : ls.size = nL) (hst : st = As.reverse ++ rest) (hW : (rest.map fun v => v.category).sum ≤ 8) (hdg : decode cc pc = .ok (.invokestatic index, 3)) (hf : cells + 1 ≤ R.cells ∧ slots + 6 ≤ R.slots) (hbad : ∀ E, bad1 E → bad E) (hmc : cells + 1 ≤ mc) (hms : slots + 6 ≤ ms)
    (kk : ok → W p l e R s m args below meth c H [] (cells + 1) (slots + 6) (vx_MQ below Qc (XK bad) args s mc ms free) (F0 m (pc + 3) ls rest)) : W p l e R s m args below meth c H [] cells slots (vx_MQ below Qc (XK bad) args s mc ms free) (F0 m pc ls st) := by
  have hPc : va_P D vwCl [] H := fun k q h => by simp at h
  intro T hT X
  rcases vx_runS S hM cw ⟨RP_blind, fun U hU hW => ⟨rfl, RP_of (wx := wx) hE hS hA hPc hU hW⟩⟩ rfl hn hsz hst (lv_room hW) hdg hf T hT X with ⟨v, st₀, t, T', L, h0, X', hL, e1, e2, ⟨hok, hv, hh⟩, st⟩ | ⟨q9, st₀, t, T', L, E, ce, h0, X', hL, e1, e2, ⟨hb1, hF⟩, hce, hcv, hcl, st⟩
  · cases hv
    obtain ⟨t2, a1, b1⟩ := kk hok T' (by rw [e1, hh, h0]) (Stand.forget X' (fun q h => (hL q h).elim))
    exact ⟨t2, st t2 a1, b1⟩
  · rw [va_F, h0, hH0] at hF
    obtain ⟨t2, a1, b1⟩ := vx_out (Qc := Qc) (XC := XK bad) (free := free) (mc := mc) (ms := ms) (pc := pc) (rest := rest) (ls := ls) (H := T'.heap) (fun x hx => (hout x hx).elim) hlocks (by rw [e1]; exact hce) hcv hcl (fun t9 h9 _ => ⟨hbad E hb1, by rw [h9, e1]; exact hF.1, fun q h1 h2 => by rw [h9, e1]; exact hF.2 q h1 h2⟩) (fun z hz => by
      rcases List.mem_append.mp hz with h | h
      · cases h
      · exact (hL z h).elim) hmc hms T' rfl X'
    exact ⟨t2, st.trans a1, b1⟩
end THR
theorem gd74 : ∀ w ∈ Cond.classLink RX6 70 xI :: Cond.initialized xI :: vx_atS RX6 74 xI xN, vx_ot w = true := by decide +kernel
theorem gd100 : ∀ w ∈ Cond.classLink RX6 96 xS :: Cond.initialized xS :: vx_atS RX6 100 xS xN, vx_ot w = true := by decide +kernel
theorem gd111 : ∀ w ∈ Cond.classLink RX6 107 xA :: Cond.initialized xA :: vx_atS RX6 111 xA xN, vx_ot w = true := by decide +kernel
theorem ng74 : ∀ w ∈ (vx_atS RX6 74 xI xN).filter (fun w => !goodWord w), w ∈ [Cond.castable xI xI, Cond.declares (Bundle.initS "java/lang/RuntimeException"), Cond.declares (Bundle.initS "java/lang/Exception"), Cond.declares (Bundle.initS Bundle.tN)] := by decide +kernel
theorem ng100 : ∀ w ∈ (vx_atS RX6 100 xS xN).filter (fun w => !goodWord w), w ∈ [Cond.castable xS xS, Cond.declares (Bundle.initS "java/lang/RuntimeException"), Cond.declares (Bundle.initS "java/lang/Exception"), Cond.declares (Bundle.initS Bundle.tN)] := by decide +kernel
theorem ng111 : ∀ w ∈ (vx_atS RX6 111 xA xN).filter (fun w => !goodWord w), w ∈ [Cond.castable xA xA, Cond.declares (Bundle.initS "java/lang/RuntimeException"), Cond.declares (Bundle.initS "java/lang/Exception"), Cond.declares (Bundle.initS Bundle.tN)] := by decide +kernel
/-- the words of 'new X(text)' that a throwing method needs, out of its own and the environment's -/
theorem hat_of {D : va_G} {z : Nat → ClassId} {q : Nat → Nat} {A : Nat → Prop} {s : State} {H : Heap} {args : Array Value} {L : List Cond} {X : String} (hE : EV D z q A s H) (hX : X ∈ excL) (hn : ∀ w ∈ L.filter (fun w => !goodWord w), w ∈ [Cond.castable X X, Cond.declares (Bundle.initS "java/lang/RuntimeException"), Cond.declares (Bundle.initS "java/lang/Exception"), Cond.declares (Bundle.initS Bundle.tN)])
    (hg : ∀ w ∈ L.filter goodWord, w.before args s = true) : ∀ w ∈ L, w.before args s = true :=
  vx_hat hg hn (vx_c (va_Nw.use rfl (hE.2.2.2.2.2.1 X hX)) (vx_c (va_Nw.use rfl (hE.2.2.2.2.2.2.2 _ (List.mem_of_getElem? (i := 0) rfl))) (vx_c (va_Nw.use rfl (hE.2.2.2.2.2.2.2 _ (List.mem_of_getElem? (i := 1) rfl))) (vx_c (va_Nw.use rfl (hE.2.2.2.2.2.2.2 _ (List.mem_of_getElem? (i := 2) rfl))) vx_n))))
theorem xIm : xI ∈ excL := List.mem_of_getElem? (i := 0) rfl
theorem xAm : xA ∈ excL := List.mem_of_getElem? (i := 1) rfl
theorem xSm : xS ∈ excL := List.mem_of_getElem? (i := 2) rfl
theorem fitN : ∀ n ∈ xN, Bundle.fit n = true := by decide +kernel
theorem fitI : Bundle.fit xI = true := by decide +kernel
theorem fitA : Bundle.fit xA = true := by decide +kernel
theorem fitS : Bundle.fit xS = true := by decide +kernel
/-- 'throw new X(text)', ahead of all writes -/
theorem thr {p : Program} {l : Launch} {e : Env} {R : Room} {s : State} {m : MethodId} {args : Array Value} {below : List Frame} {meth : Method} {c : Code} {H : Heap} {cells slots : Nat} {D : va_G} {z : Nat → ClassId} {q : Nat → Nat} {A : Nat → Prop} {cc : ByteArray} {pc nL : Nat} {ls : Array Slot} {rest : List Value} {Qc : Array Value → State → Outcome → State → Prop} {mc ms : Nat} {free : Addr → Prop} {bad : String → Prop}
    (hx : p.tables.exec = Jvm.exec) (hb : c.code = cc) (hl : l.stackTraces = false) {cls text : String} {ik is ic : Nat} (hown : s.vm.findClass RX6 = some m.cls) (hcls : Bundle.fit cls = true) (hX : cls ∈ excL)
    (hk : (Cond.classLink RX6 ik cls).before args s = true) (hini : (Cond.initialized cls).before args s = true) (htx : (is, text) ∈ textL) (hn : ∀ w ∈ (vx_atS RX6 ic cls xN).filter (fun w => !goodWord w), w ∈ [Cond.castable cls cls, Cond.declares (Bundle.initS "java/lang/RuntimeException"), Cond.declares (Bundle.initS "java/lang/Exception"), Cond.declares (Bundle.initS Bundle.tN)]) (hg : ∀ w ∈ (vx_atS RX6 ic cls xN).filter goodWord, w.before args s = true)
    (hgood : ∀ w ∈ Cond.classLink RX6 ik cls :: Cond.initialized cls :: vx_atS RX6 ic cls xN, vx_ot w = true) (hE : EV D z q A s s.heap) (hS : va_S A s.heap H []) (hH0 : H = s.heap) (hml : c.maxLocals = nL) (hsize : ls.size = nL)
    (d0 : decode cc pc = .ok (.new ik, 3)) (d3 : decode cc (pc + 3) = .ok (.dup, 1)) (d4 : decode cc (pc + 4) = .ok (.ldc is, 2)) (d6 : decode cc (pc + 6) = .ok (.invokespecial ic, 3)) (d9 : decode cc (pc + 9) = .ok (.athrow, 1))
    (hout : ∀ x ∈ c.exceptionTable.toList, False) (hlocks : meth.locks = false) (hRf : 5 < R.frames) (hRl : (rest.map fun v => v.category).sum + 82 ≤ R.locals) (hRc : cells + 1 ≤ R.cells ∧ slots + 6 ≤ R.slots) (hbad : bad cls) (hc : cells + 1 ≤ mc) (hs : slots + 6 ≤ ms) :
    W p l e R s m args below meth c H [] cells slots (vx_MQ below Qc (XK bad) args s mc ms free) (F0 m pc ls rest) := by
  subst hH0
  exact vx_throwS (own := RX6) (names := xN) (A := A) hx hb hl hown hcls fitN hk hini (hE.2.2.2.2.1 (is, text) htx) (hat_of hE hX hn hg) hgood hE.2.2.1.1 hE.2.2.1.2 hS (hsize.trans hml.symm) d0 d3 d4 d6 d9 (fun x hx => (hout x hx).elim) hRf hRl hRc.1 hRc.2 hlocks (fun t _ hz hk => ⟨hbad, hz, fun q h1 _ => hk q h1⟩) (fun _ h => nomatch h) hc hs
end
section
/-! ===== TypingCoach ===== -/
theorem bTouch_n (pl : Nat → Int32) (i j : Int32) : narrow .boolean (.int (bTouch pl i j)) = .int (bTouch pl i j) := by
  unfold bTouch; split <;> first | rfl | (split <;> rfl)
theorem fGood_n (ct ti sh : Nat → Int32) (wt wh i : Int32) : narrow .boolean (.int (fGood ct ti sh wt wh i)) = .int (fGood ct ti sh wt wh i) := by
  unfold fGood; split <;> first | rfl | (split <;> first | rfl | (split <;> rfl))
theorem lIn_n (ia : Nat → Int32) (i : Int32) : narrow .boolean (.int (lIn ia i)) = .int (lIn ia i) := by
  unfold lIn; split <;> first | rfl | (split <;> first | rfl | (split <;> rfl))
theorem hd_X6_isWithin : yX6_isWithin.cls ≠ "java/lang/invoke/MethodHandle" ∧ yX6_isWithin.cls ≠ "java/lang/invoke/VarHandle" ∧ (parseMethodDescriptor yX6_isWithin.desc).map (fun d => d.parameters.length) = some 3 := by decide +kernel
set_option maxHeartbeats 4000000 in
set_option maxRecDepth 100000 in
theorem c_X6_isWithin (l : Launch) (D : va_G) (z : Nat → ClassId) (q : Nat → Nat) (v : Int32) (a : Int32) (b : Int32)  : RD l yX6_isWithin wsX6_isWithin ({ frames := 0, cells := 0, slots := 0, locals := 0 } : Room) D z q [.int v, .int a, .int b] [] (some (.int (bW v a b))) := by
  refine RD_mk (cc := cX6_isWithin) (maxL := 3) (ret := (some .boolean)) (by decide) rfl (Nat.le_of_ble_eq_true rfl) ?_
  intro p e s m below meth c hx hb hr hml hts hown hlocks hP hE hS hA ls hl
  have hK := hE.1
  have hown : s.vm.findClass RX6 = some m.cls := hown
  have hl : lv_has ls 3 [(0, .int v), (1, .int a), (2, .int b)] := hl
  refine lv_iload_n hx hb dX6_isWithin_0 rfl (lv_at hl 0 rfl) ?_
  refine lv_iload_n hx hb dX6_isWithin_1 rfl (lv_at hl 1 rfl) ?_
  refine lv_icmp_lt (tgt := 14) hx hb dX6_isWithin_2 (by decide) (fun c_1 => ?_) (fun c_1 => ?_)
  · refine lv_iconst (v := 0) hx hb dX6_isWithin_14 (by decide) ?_
    exact rd_z hx hb hr hlocks dX6_isWithin_15 (by decide) (by simp only [bW, if_pos c_1, ↓reduceIte])
  · refine lv_iload_n hx hb dX6_isWithin_5 rfl (lv_at hl 0 rfl) ?_
    refine lv_iload_n hx hb dX6_isWithin_6 rfl (lv_at hl 2 rfl) ?_
    refine lv_icmp_gt (tgt := 14) hx hb dX6_isWithin_7 (by decide) (fun c_2 => ?_) (fun c_2 => ?_)
    · refine lv_iconst (v := 0) hx hb dX6_isWithin_14 (by decide) ?_
      exact rd_z hx hb hr hlocks dX6_isWithin_15 (by decide) (by simp only [bW, if_neg c_1, if_pos c_2, ↓reduceIte])
    · refine lv_iconst (v := 1) hx hb dX6_isWithin_10 (by decide) ?_
      refine lv_goto (tgt := 15) hx hb dX6_isWithin_11 (by decide) ?_
      exact rd_z hx hb hr hlocks dX6_isWithin_15 (by decide) (by simp only [bW, if_neg c_1, if_neg c_2, ↓reduceIte])
theorem hd_X6_needLetter : yX6_needLetter.cls ≠ "java/lang/invoke/MethodHandle" ∧ yX6_needLetter.cls ≠ "java/lang/invoke/VarHandle" ∧ (parseMethodDescriptor yX6_needLetter.desc).map (fun d => d.parameters.length) = some 1 := by decide +kernel
set_option maxHeartbeats 4000000 in
set_option maxRecDepth 100000 in
theorem c_X6_needLetter (l : Launch) (D : va_G) (z : Nat → ClassId) (q : Nat → Nat) (i : Int32) (hlt : l.stackTraces = false) : TS l yX6_needLetter wsX6_needLetter ({ frames := 6, cells := 1, slots := 6, locals := 120 } : Room) D z q [.int i] (¬ bW i 0 25 = 0) (fun E => (bW i 0 25 = 0 ∧ E = xI)) := by
  refine TS_mk (cc := cX6_needLetter) (maxL := 1) (ret := none) (by decide) rfl (Nat.le_of_ble_eq_true rfl) ?_
  intro p e s m below meth c hx hb hr hml hts hown hlocks hout hP hE hS hA ls hl
  have hK := hE.1
  have hown : s.vm.findClass RX6 = some m.cls := hown
  have hl : lv_has ls 1 [(0, .int i)] := hl
  refine lv_iload_n hx hb dX6_needLetter_0 rfl (lv_at hl 0 rfl) ?_
  refine lv_iconst (v := 0) hx hb dX6_needLetter_1 (by decide) ?_
  refine lv_bipush (v := 25) hx hb dX6_needLetter_2 (by decide) ?_
  refine rdS (As := [.int i, .int 0, .int 25]) (rest := []) ⟨hx, hb, hml, hown, hts⟩ (c_X6_isWithin l D z q i 0 25) (va_cwS 3 hts gX6_needLetter_X6_isWithin rfl rfl rfl hd_X6_isWithin ⟨Nat.le_of_ble_eq_true rfl, Nat.le_of_ble_eq_true rfl⟩) hE hS hA hP [] rfl rfl hl.1 rfl (Nat.le_of_ble_eq_true rfl) dX6_needLetter_4 ⟨(Nat.le_of_ble_eq_true rfl), (Nat.le_of_ble_eq_true rfl)⟩ ?_
  refine lv_if_ne (tgt := 20) hx hb dX6_needLetter_7 (by decide) (fun c_1 => ?_) (fun c_1 => ?_)
  · exact ts_v hx hb hr hlocks dX6_needLetter_20 c_1
  · exact thr (is := 221) (text := "no such letter") (cls := xI) hx hb hlt hown fitI xIm (hts (.classLink RX6 70 "java/lang/IndexOutOfBoundsException") (List.mem_of_getElem? (i := 1) rfl)) (hts (.initialized "java/lang/IndexOutOfBoundsException") (List.mem_of_getElem? (i := 2) rfl)) (List.mem_of_getElem? (i := 9) rfl) ng74 (fun w h => hts w (List.mem_cons_of_mem _ (List.mem_append_right _ h))) gd74 hE hS rfl hml hl.1 dX6_needLetter_10 dX6_needLetter_13 dX6_needLetter_14 dX6_needLetter_16 dX6_needLetter_19 hout hlocks (Nat.le_of_ble_eq_true rfl) (Nat.le_of_ble_eq_true rfl) ⟨(Nat.le_of_ble_eq_true rfl), (Nat.le_of_ble_eq_true rfl)⟩ (⟨c_1, rfl⟩) (Nat.le_of_ble_eq_true rfl) (Nat.le_of_ble_eq_true rfl)
theorem hd_X6_needMillis : yX6_needMillis.cls ≠ "java/lang/invoke/MethodHandle" ∧ yX6_needMillis.cls ≠ "java/lang/invoke/VarHandle" ∧ (parseMethodDescriptor yX6_needMillis.desc).map (fun d => d.parameters.length) = some 1 := by decide +kernel
set_option maxHeartbeats 4000000 in
set_option maxRecDepth 100000 in
theorem c_X6_needMillis (l : Launch) (D : va_G) (z : Nat → ClassId) (q : Nat → Nat) (mo : Int32) (hlt : l.stackTraces = false) : TS l yX6_needMillis wsX6_needMillis ({ frames := 6, cells := 1, slots := 6, locals := 120 } : Room) D z q [.int mo] (¬ bW mo 1 5000 = 0) (fun E => (bW mo 1 5000 = 0 ∧ E = xA)) := by
  refine TS_mk (cc := cX6_needMillis) (maxL := 1) (ret := none) (by decide) rfl (Nat.le_of_ble_eq_true rfl) ?_
  intro p e s m below meth c hx hb hr hml hts hown hlocks hout hP hE hS hA ls hl
  have hK := hE.1
  have hown : s.vm.findClass RX6 = some m.cls := hown
  have hl : lv_has ls 1 [(0, .int mo)] := hl
  refine lv_iload_n hx hb dX6_needMillis_0 rfl (lv_at hl 0 rfl) ?_
  refine lv_iconst (v := 1) hx hb dX6_needMillis_1 (by decide) ?_
  refine lv_sipush (v := 5000) hx hb dX6_needMillis_2 (by decide) ?_
  refine rdS (As := [.int mo, .int 1, .int 5000]) (rest := []) ⟨hx, hb, hml, hown, hts⟩ (c_X6_isWithin l D z q mo 1 5000) (va_cwS 3 hts gX6_needMillis_X6_isWithin rfl rfl rfl hd_X6_isWithin ⟨Nat.le_of_ble_eq_true rfl, Nat.le_of_ble_eq_true rfl⟩) hE hS hA hP [] rfl rfl hl.1 rfl (Nat.le_of_ble_eq_true rfl) dX6_needMillis_5 ⟨(Nat.le_of_ble_eq_true rfl), (Nat.le_of_ble_eq_true rfl)⟩ ?_
  refine lv_if_ne (tgt := 21) hx hb dX6_needMillis_8 (by decide) (fun c_1 => ?_) (fun c_1 => ?_)
  · exact ts_v hx hb hr hlocks dX6_needMillis_21 c_1
  · exact thr (is := 223) (text := "millis out of range") (cls := xA) hx hb hlt hown fitA xAm (hts (.classLink RX6 107 "java/lang/IllegalArgumentException") (List.mem_of_getElem? (i := 1) rfl)) (hts (.initialized "java/lang/IllegalArgumentException") (List.mem_of_getElem? (i := 2) rfl)) (List.mem_of_getElem? (i := 10) rfl) ng111 (fun w h => hts w (List.mem_cons_of_mem _ (List.mem_append_right _ h))) gd111 hE hS rfl hml hl.1 dX6_needMillis_11 dX6_needMillis_14 dX6_needMillis_15 dX6_needMillis_17 dX6_needMillis_20 hout hlocks (Nat.le_of_ble_eq_true rfl) (Nat.le_of_ble_eq_true rfl) ⟨(Nat.le_of_ble_eq_true rfl), (Nat.le_of_ble_eq_true rfl)⟩ (⟨c_1, rfl⟩) (Nat.le_of_ble_eq_true rfl) (Nat.le_of_ble_eq_true rfl)
set_option maxRecDepth 20000 in
theorem in_X6_put_X6 : ∀ w ∈ wsX60, w ∈ wsX6_put := mem_r _ [28, 29, 30, 31, 32, 33, 34, 35] (by decide +kernel)
theorem hd_X6_put : yX6_put.cls = RX6 ∧ yX6_put.cls ≠ "java/lang/invoke/MethodHandle" ∧ yX6_put.cls ≠ "java/lang/invoke/VarHandle" ∧ (parseMethodDescriptor yX6_put.desc).map (fun d => d.parameters.length) = some 3 := by decide +kernel
set_option maxHeartbeats 4000000 in
set_option maxRecDepth 100000 in
theorem c_X6_put (l : Launch) (D : va_G) (z : Nat → ClassId) (q : Nat → Nat) (xo : Nat) (xb : Nat) (xg : Nat) (xn : Nat) (xt : Nat) (xp : Nat) (xk : Nat) (xf : Nat) (dy : Int32) (b1 : Nat) (w1 : Nat) (b2 : Nat) (w2 : Nat) (pl : Nat → Int32) (lo : Nat → Int32) (i : Int32) (co : Int32) (ro : Int32) (sz : Nat) (hlt : l.stackTraces = false) : TX l yX6_put wsX6_put ({ frames := 7, cells := 3, slots := 18, locals := 140 } : Room) D z q [.ref xo, .int i, .int co, .int ro] [(xo, .inr (6, [.ref xb, .ref xg, .ref xn, .ref xt, .ref xp, .ref xk, .ref xf, .int dy])), (xb, .inr (0, [.ref b1, .ref b2])), (b1, .inr (1, [.ref w1])), (w1, .inl (z 0, 26, .inl pl)), (b2, .inr (1, [.ref w2])), (w2, .inl (z 0, 30, .inl lo))] sz [(xo, .inr (6, [.ref xb, .ref xg, .ref xn, .ref xt, .ref xp, .ref xk, .ref xf, .int dy])), (xb, .inr (0, [.ref b1, .ref b2])), (b1, .inr (1, [.ref w1])), (w1, .inl (z 0, 26, .inl (bMovP pl lo i (ro * 10 + co)))), (b2, .inr (1, [.ref w2])), (w2, .inl (z 0, 30, .inl (bMovL pl lo i (ro * 10 + co))))] (some (.int (cAt 30 lo (ro * 10 + co)))) (¬ bW i 0 25 = 0 ∧ ¬ bW co 0 9 = 0 ∧ ¬ bW ro 0 2 = 0) (fun E => (bW i 0 25 = 0 ∧ E = xI) ∨ (¬ bW i 0 25 = 0 ∧ bW co 0 9 = 0 ∧ E = xI) ∨ (¬ bW i 0 25 = 0 ∧ ¬ bW co 0 9 = 0 ∧ bW ro 0 2 = 0 ∧ E = xI)) := by
  refine TX_mk (Qc := fun A a st o t => (¬ bW i 0 25 = 0 ∧ ¬ bW co 0 9 = 0 ∧ ¬ bW ro 0 2 = 0) ∧ QW D [(xo, .inr (6, [.ref xb, .ref xg, .ref xn, .ref xt, .ref xp, .ref xk, .ref xf, .int dy])), (xb, .inr (0, [.ref b1, .ref b2])), (b1, .inr (1, [.ref w1])), (w1, .inl (z 0, 26, .inl (bMovP pl lo i (ro * 10 + co)))), (b2, .inr (1, [.ref w2])), (w2, .inl (z 0, 30, .inl (bMovL pl lo i (ro * 10 + co))))] A (some (.int (cAt 30 lo (ro * 10 + co)))) a st o t) (XC := XK (fun E => (bW i 0 25 = 0 ∧ E = xI) ∨ (¬ bW i 0 25 = 0 ∧ bW co 0 9 = 0 ∧ E = xI) ∨ (¬ bW i 0 25 = 0 ∧ ¬ bW co 0 9 = 0 ∧ bW ro 0 2 = 0 ∧ E = xI))) (mc := 3) (ms := 18) (cc := cX6_put) (maxL := 4) (ret := (some .int)) (by decide) rfl (Nat.le_of_ble_eq_true rfl) ?_
  intro p e s m below meth c A hx hb hr hml hts hown hlocks hout H hH0 hP hD hE hS hA ls hl
  have hK := hE.1
  have hown : s.vm.findClass RX6 = some m.cls := hown
  have hl : lv_has ls 4 [(0, .ref xo), (1, .int i), (2, .int co), (3, .int ro)] := hl
  refine lv_iload_n hx hb dX6_put_0 rfl (lv_at hl 1 rfl) ?_
  refine tsS (As := [.int i]) (rest := []) (mc := 3) (ms := 18) ⟨hx, hb, hml, hown, hts⟩ (c_X6_needLetter l D z q i hlt) (va_cwS 1 hts gX6_put_X6_needLetter rfl rfl rfl hd_X6_needLetter ⟨Nat.le_of_ble_eq_true rfl, Nat.le_of_ble_eq_true rfl⟩) hE hS hA hP hH0 hout hlocks rfl hl.1 rfl (Nat.le_of_ble_eq_true rfl) dX6_put_1 ⟨(Nat.le_of_ble_eq_true rfl), (Nat.le_of_ble_eq_true rfl)⟩ (fun E h => Or.inl ⟨h.1, h.2⟩) (Nat.le_of_ble_eq_true rfl) (Nat.le_of_ble_eq_true rfl) (fun c_1 => ?_)
  refine W.widen (k := 1) (n := 6) (Nat.le_refl _) (Nat.le_refl _) ?_
  refine lv_iload_n hx hb dX6_put_4 rfl (lv_at hl 2 rfl) ?_
  refine lv_iconst (v := 0) hx hb dX6_put_5 (by decide) ?_
  refine lv_bipush (v := 9) hx hb dX6_put_6 (by decide) ?_
  refine rdS (As := [.int co, .int 0, .int 9]) (rest := []) ⟨hx, hb, hml, hown, hts⟩ (c_X6_isWithin l D z q co 0 9) (va_cwS 3 hts gX6_put_X6_isWithin rfl rfl rfl hd_X6_isWithin ⟨Nat.le_of_ble_eq_true rfl, Nat.le_of_ble_eq_true rfl⟩) hE hS hA hP [] rfl rfl hl.1 rfl (Nat.le_of_ble_eq_true rfl) dX6_put_8 ⟨(Nat.le_of_ble_eq_true rfl), (Nat.le_of_ble_eq_true rfl)⟩ ?_
  refine lv_if_eq (tgt := 23) hx hb dX6_put_11 (by decide) (fun c_2 => ?_) (fun c_2 => ?_)
  · exact thr (is := 72) (text := "no such place") (cls := xI) hx hb hlt hown fitI xIm (hts (.classLink RX6 70 "java/lang/IndexOutOfBoundsException") (List.mem_of_getElem? (i := 1) rfl)) (hts (.initialized "java/lang/IndexOutOfBoundsException") (List.mem_of_getElem? (i := 2) rfl)) (List.mem_of_getElem? (i := 11) rfl) ng74 (fun w h => hts w (List.mem_cons_of_mem _ (List.mem_append_right _ h))) gd74 hE hS hH0 hml hl.1 dX6_put_23 dX6_put_26 dX6_put_27 dX6_put_29 dX6_put_32 hout hlocks (Nat.le_of_ble_eq_true rfl) (Nat.le_of_ble_eq_true rfl) ⟨(Nat.le_of_ble_eq_true rfl), (Nat.le_of_ble_eq_true rfl)⟩ (Or.inr (Or.inl ⟨c_1, c_2, rfl⟩)) (Nat.le_of_ble_eq_true rfl) (Nat.le_of_ble_eq_true rfl)
  · refine lv_iload_n hx hb dX6_put_14 rfl (lv_at hl 3 rfl) ?_
    refine lv_iconst (v := 0) hx hb dX6_put_15 (by decide) ?_
    refine lv_iconst (v := 2) hx hb dX6_put_16 (by decide) ?_
    refine rdS (As := [.int ro, .int 0, .int 2]) (rest := []) ⟨hx, hb, hml, hown, hts⟩ (c_X6_isWithin l D z q ro 0 2) (va_cwS 3 hts gX6_put_X6_isWithin rfl rfl rfl hd_X6_isWithin ⟨Nat.le_of_ble_eq_true rfl, Nat.le_of_ble_eq_true rfl⟩) hE hS hA hP [] rfl rfl hl.1 rfl (Nat.le_of_ble_eq_true rfl) dX6_put_17 ⟨(Nat.le_of_ble_eq_true rfl), (Nat.le_of_ble_eq_true rfl)⟩ ?_
    refine lv_if_ne (tgt := 33) hx hb dX6_put_20 (by decide) (fun c_3 => ?_) (fun c_3 => ?_)
    · refine lv_aload_n hx hb dX6_put_33 rfl (lv_at hl 0 rfl) ?_
      refine va_get (D := D) (ci := 6) (v := .ref xb) (C := RX6) (T := TX6) (N := 8) hx hb hts in_X6_put_X6 hown hK hP 0 rfl rfl 0 (by decide) (hts (.fieldLink RX6 10 "TypingCoach" "board" "LTypingCoach$Board;") (List.mem_of_getElem? (i := 3) rfl)) (fun _ h9 => h9) rfl dX6_put_34 ?_
      refine lv_iload_n hx hb dX6_put_37 rfl (lv_at hl 1 rfl) ?_
      refine lv_iload_n hx hb dX6_put_38 rfl (lv_at hl 3 rfl) ?_
      refine lv_bipush (v := 10) hx hb dX6_put_39 (by decide) ?_
      refine lv_imul hx hb dX6_put_41 ?_
      refine lv_iload_n hx hb dX6_put_42 rfl (lv_at hl 2 rfl) ?_
      refine lv_iadd hx hb dX6_put_43 ?_
      refine wrVi (As := [.int i, .int ((ro * 10) + co)]) (rest := []) ⟨hx, hb, hml, hown, hts⟩ (c_X0_move l D z q xb b1 w1 b2 w2 pl lo i ((ro * 10) + co) H.size) (cwV 2 hts gX6_put_X0_move rfl rfl rfl hd_X0_move ⟨Nat.le_of_ble_eq_true rfl, Nat.le_of_ble_eq_true rfl⟩) hE hS hA hP hD [1, 2, 3, 4, 5] rfl rfl rfl rfl rfl rfl rfl hl.1 rfl (Nat.le_of_ble_eq_true rfl) dX6_put_44 ⟨(Nat.le_of_ble_eq_true rfl), (Nat.le_of_ble_eq_true rfl)⟩ (fun H locs hP hD hS => ?_)
      have hP : va_P D vwCl [(xo, .inr (6, [.ref xb, .ref xg, .ref xn, .ref xt, .ref xp, .ref xk, .ref xf, .int dy])), (xb, .inr (0, [.ref b1, .ref b2])), (b1, .inr (1, [.ref w1])), (w1, .inl (z 0, 26, .inl (bMovP pl lo i ((ro * 10) + co)))), (b2, .inr (1, [.ref w2])), (w2, .inl (z 0, 30, .inl (bMovL pl lo i ((ro * 10) + co))))] H := hP
      have hD : va_D A [(xo, .inr (6, [.ref xb, .ref xg, .ref xn, .ref xt, .ref xp, .ref xk, .ref xf, .int dy])), (xb, .inr (0, [.ref b1, .ref b2])), (b1, .inr (1, [.ref w1])), (w1, .inl (z 0, 26, .inl (bMovP pl lo i ((ro * 10) + co)))), (b2, .inr (1, [.ref w2])), (w2, .inl (z 0, 30, .inl (bMovL pl lo i ((ro * 10) + co))))] := hD
      exact tx_i hx hb hr hlocks hP hD hS dX6_put_47 (⟨c_1, c_2, c_3⟩) (rfl) (rfl) (Nat.le_of_ble_eq_true rfl) (Nat.le_of_ble_eq_true rfl)
    · exact thr (is := 72) (text := "no such place") (cls := xI) hx hb hlt hown fitI xIm (hts (.classLink RX6 70 "java/lang/IndexOutOfBoundsException") (List.mem_of_getElem? (i := 1) rfl)) (hts (.initialized "java/lang/IndexOutOfBoundsException") (List.mem_of_getElem? (i := 2) rfl)) (List.mem_of_getElem? (i := 11) rfl) ng74 (fun w h => hts w (List.mem_cons_of_mem _ (List.mem_append_right _ h))) gd74 hE hS hH0 hml hl.1 dX6_put_23 dX6_put_26 dX6_put_27 dX6_put_29 dX6_put_32 hout hlocks (Nat.le_of_ble_eq_true rfl) (Nat.le_of_ble_eq_true rfl) ⟨(Nat.le_of_ble_eq_true rfl), (Nat.le_of_ble_eq_true rfl)⟩ (Or.inr (Or.inr (⟨c_1, c_2, c_3, rfl⟩))) (Nat.le_of_ble_eq_true rfl) (Nat.le_of_ble_eq_true rfl)
set_option maxRecDepth 20000 in
theorem in_X6_finger_X6 : ∀ w ∈ wsX60, w ∈ wsX6_finger := mem_r _ [27, 28, 29, 30, 31, 32, 33, 34] (by decide +kernel)
theorem hd_X6_finger : yX6_finger.cls = RX6 ∧ yX6_finger.cls ≠ "java/lang/invoke/MethodHandle" ∧ yX6_finger.cls ≠ "java/lang/invoke/VarHandle" ∧ (parseMethodDescriptor yX6_finger.desc).map (fun d => d.parameters.length) = some 1 := by decide +kernel
set_option maxHeartbeats 4000000 in
set_option maxRecDepth 100000 in
theorem c_X6_finger (l : Launch) (D : va_G) (z : Nat → ClassId) (q : Nat → Nat) (xo : Nat) (xb : Nat) (xg : Nat) (xn : Nat) (xt : Nat) (xp : Nat) (xk : Nat) (xf : Nat) (dy : Int32) (b1 : Nat) (w1 : Nat) (b2 : Nat) (w2 : Nat) (pl : Nat → Int32) (lo : Nat → Int32) (i : Int32) (sz : Nat) (hlt : l.stackTraces = false) : TX l yX6_finger wsX6_finger ({ frames := 7, cells := 3, slots := 18, locals := 140 } : Room) D z q [.ref xo, .int i] [(xo, .inr (6, [.ref xb, .ref xg, .ref xn, .ref xt, .ref xp, .ref xk, .ref xf, .int dy])), (xb, .inr (0, [.ref b1, .ref b2])), (b1, .inr (1, [.ref w1])), (w1, .inl (z 0, 26, .inl pl)), (b2, .inr (1, [.ref w2])), (w2, .inl (z 0, 30, .inl lo))] sz [(xo, .inr (6, [.ref xb, .ref xg, .ref xn, .ref xt, .ref xp, .ref xk, .ref xf, .int dy])), (xb, .inr (0, [.ref b1, .ref b2])), (b1, .inr (1, [.ref w1])), (w1, .inl (z 0, 26, .inl pl)), (b2, .inr (1, [.ref w2])), (w2, .inl (z 0, 30, .inl lo))] (some (.int (bFin pl i))) (¬ bW i 0 25 = 0) (fun E => (bW i 0 25 = 0 ∧ E = xI)) := by
  refine TX_mk (Qc := fun A a st o t => (¬ bW i 0 25 = 0) ∧ QW D [(xo, .inr (6, [.ref xb, .ref xg, .ref xn, .ref xt, .ref xp, .ref xk, .ref xf, .int dy])), (xb, .inr (0, [.ref b1, .ref b2])), (b1, .inr (1, [.ref w1])), (w1, .inl (z 0, 26, .inl pl)), (b2, .inr (1, [.ref w2])), (w2, .inl (z 0, 30, .inl lo))] A (some (.int (bFin pl i))) a st o t) (XC := XK (fun E => (bW i 0 25 = 0 ∧ E = xI))) (mc := 3) (ms := 18) (cc := cX6_finger) (maxL := 2) (ret := (some .int)) (by decide) rfl (Nat.le_of_ble_eq_true rfl) ?_
  intro p e s m below meth c A hx hb hr hml hts hown hlocks hout H hH0 hP hD hE hS hA ls hl
  have hK := hE.1
  have hown : s.vm.findClass RX6 = some m.cls := hown
  have hl : lv_has ls 2 [(0, .ref xo), (1, .int i)] := hl
  refine lv_iload_n hx hb dX6_finger_0 rfl (lv_at hl 1 rfl) ?_
  refine tsS (As := [.int i]) (rest := []) (mc := 3) (ms := 18) ⟨hx, hb, hml, hown, hts⟩ (c_X6_needLetter l D z q i hlt) (va_cwS 1 hts gX6_finger_X6_needLetter rfl rfl rfl hd_X6_needLetter ⟨Nat.le_of_ble_eq_true rfl, Nat.le_of_ble_eq_true rfl⟩) hE hS hA hP hH0 hout hlocks rfl hl.1 rfl (Nat.le_of_ble_eq_true rfl) dX6_finger_1 ⟨(Nat.le_of_ble_eq_true rfl), (Nat.le_of_ble_eq_true rfl)⟩ (fun E h => ⟨h.1, h.2⟩) (Nat.le_of_ble_eq_true rfl) (Nat.le_of_ble_eq_true rfl) (fun c_1 => ?_)
  refine W.widen (k := 1) (n := 6) (Nat.le_refl _) (Nat.le_refl _) ?_
  refine lv_aload_n hx hb dX6_finger_4 rfl (lv_at hl 0 rfl) ?_
  refine va_get (D := D) (ci := 6) (v := .ref xb) (C := RX6) (T := TX6) (N := 8) hx hb hts in_X6_finger_X6 hown hK hP 0 rfl rfl 0 (by decide) (hts (.fieldLink RX6 10 "TypingCoach" "board" "LTypingCoach$Board;") (List.mem_of_getElem? (i := 1) rfl)) (fun _ h9 => h9) rfl dX6_finger_5 ?_
  refine lv_iload_n hx hb dX6_finger_8 rfl (lv_at hl 1 rfl) ?_
  refine rdV (As := [.int i]) (rest := []) ⟨hx, hb, hml, hown, hts⟩ (c_X0_fingerOf l D z q xb b1 w1 b2 w2 pl lo i) (cwV 1 hts gX6_finger_X0_fingerOf rfl rfl rfl hd_X0_fingerOf ⟨Nat.le_of_ble_eq_true rfl, Nat.le_of_ble_eq_true rfl⟩) hE hS hA hP [1, 2, 3, 4, 5] rfl rfl rfl rfl rfl hl.1 rfl (Nat.le_of_ble_eq_true rfl) dX6_finger_9 ⟨(Nat.le_of_ble_eq_true rfl), (Nat.le_of_ble_eq_true rfl)⟩ ?_
  exact tx_i hx hb hr hlocks hP hD hS dX6_finger_12 (c_1) (rfl) (rfl) (Nat.le_of_ble_eq_true rfl) (Nat.le_of_ble_eq_true rfl)
set_option maxRecDepth 20000 in
theorem in_X6_areBeside_X6 : ∀ w ∈ wsX60, w ∈ wsX6_areBeside := mem_r _ [35, 36, 37, 38, 39, 40, 41, 42] (by decide +kernel)
theorem hd_X6_areBeside : yX6_areBeside.cls = RX6 ∧ yX6_areBeside.cls ≠ "java/lang/invoke/MethodHandle" ∧ yX6_areBeside.cls ≠ "java/lang/invoke/VarHandle" ∧ (parseMethodDescriptor yX6_areBeside.desc).map (fun d => d.parameters.length) = some 2 := by decide +kernel
set_option maxHeartbeats 4000000 in
set_option maxRecDepth 100000 in
theorem c_X6_areBeside (l : Launch) (D : va_G) (z : Nat → ClassId) (q : Nat → Nat) (xo : Nat) (xb : Nat) (xg : Nat) (xn : Nat) (xt : Nat) (xp : Nat) (xk : Nat) (xf : Nat) (dy : Int32) (b1 : Nat) (w1 : Nat) (b2 : Nat) (w2 : Nat) (pl : Nat → Int32) (lo : Nat → Int32) (i : Int32) (j : Int32) (sz : Nat) (hlt : l.stackTraces = false) : TX l yX6_areBeside wsX6_areBeside ({ frames := 7, cells := 3, slots := 18, locals := 140 } : Room) D z q [.ref xo, .int i, .int j] [(xo, .inr (6, [.ref xb, .ref xg, .ref xn, .ref xt, .ref xp, .ref xk, .ref xf, .int dy])), (xb, .inr (0, [.ref b1, .ref b2])), (b1, .inr (1, [.ref w1])), (w1, .inl (z 0, 26, .inl pl)), (b2, .inr (1, [.ref w2])), (w2, .inl (z 0, 30, .inl lo))] sz [(xo, .inr (6, [.ref xb, .ref xg, .ref xn, .ref xt, .ref xp, .ref xk, .ref xf, .int dy])), (xb, .inr (0, [.ref b1, .ref b2])), (b1, .inr (1, [.ref w1])), (w1, .inl (z 0, 26, .inl pl)), (b2, .inr (1, [.ref w2])), (w2, .inl (z 0, 30, .inl lo))] (some (.int (bTouch pl i j))) (¬ bW i 0 25 = 0 ∧ ¬ bW j 0 25 = 0) (fun E => (bW i 0 25 = 0 ∧ E = xI) ∨ (¬ bW i 0 25 = 0 ∧ bW j 0 25 = 0 ∧ E = xI)) := by
  refine TX_mk (Qc := fun A a st o t => (¬ bW i 0 25 = 0 ∧ ¬ bW j 0 25 = 0) ∧ QW D [(xo, .inr (6, [.ref xb, .ref xg, .ref xn, .ref xt, .ref xp, .ref xk, .ref xf, .int dy])), (xb, .inr (0, [.ref b1, .ref b2])), (b1, .inr (1, [.ref w1])), (w1, .inl (z 0, 26, .inl pl)), (b2, .inr (1, [.ref w2])), (w2, .inl (z 0, 30, .inl lo))] A (some (.int (bTouch pl i j))) a st o t) (XC := XK (fun E => (bW i 0 25 = 0 ∧ E = xI) ∨ (¬ bW i 0 25 = 0 ∧ bW j 0 25 = 0 ∧ E = xI))) (mc := 3) (ms := 18) (cc := cX6_areBeside) (maxL := 3) (ret := (some .boolean)) (by decide) rfl (Nat.le_of_ble_eq_true rfl) ?_
  intro p e s m below meth c A hx hb hr hml hts hown hlocks hout H hH0 hP hD hE hS hA ls hl
  have hK := hE.1
  have hown : s.vm.findClass RX6 = some m.cls := hown
  have hl : lv_has ls 3 [(0, .ref xo), (1, .int i), (2, .int j)] := hl
  refine lv_iload_n hx hb dX6_areBeside_0 rfl (lv_at hl 1 rfl) ?_
  refine tsS (As := [.int i]) (rest := []) (mc := 3) (ms := 18) ⟨hx, hb, hml, hown, hts⟩ (c_X6_needLetter l D z q i hlt) (va_cwS 1 hts gX6_areBeside_X6_needLetter rfl rfl rfl hd_X6_needLetter ⟨Nat.le_of_ble_eq_true rfl, Nat.le_of_ble_eq_true rfl⟩) hE hS hA hP hH0 hout hlocks rfl hl.1 rfl (Nat.le_of_ble_eq_true rfl) dX6_areBeside_1 ⟨(Nat.le_of_ble_eq_true rfl), (Nat.le_of_ble_eq_true rfl)⟩ (fun E h => Or.inl ⟨h.1, h.2⟩) (Nat.le_of_ble_eq_true rfl) (Nat.le_of_ble_eq_true rfl) (fun c_1 => ?_)
  refine W.widen (k := 1) (n := 6) (Nat.le_refl _) (Nat.le_refl _) ?_
  refine lv_iload_n hx hb dX6_areBeside_4 rfl (lv_at hl 2 rfl) ?_
  refine tsS (As := [.int j]) (rest := []) (mc := 3) (ms := 18) ⟨hx, hb, hml, hown, hts⟩ (c_X6_needLetter l D z q j hlt) (va_cwS 1 hts gX6_areBeside_X6_needLetter rfl rfl rfl hd_X6_needLetter ⟨Nat.le_of_ble_eq_true rfl, Nat.le_of_ble_eq_true rfl⟩) hE hS hA hP hH0 hout hlocks rfl hl.1 rfl (Nat.le_of_ble_eq_true rfl) dX6_areBeside_5 ⟨(Nat.le_of_ble_eq_true rfl), (Nat.le_of_ble_eq_true rfl)⟩ (fun E h => Or.inr (⟨c_1, h.1, h.2⟩)) (Nat.le_of_ble_eq_true rfl) (Nat.le_of_ble_eq_true rfl) (fun c_2 => ?_)
  refine W.widen (k := 2) (n := 12) (Nat.le_refl _) (Nat.le_refl _) ?_
  refine lv_aload_n hx hb dX6_areBeside_8 rfl (lv_at hl 0 rfl) ?_
  refine va_get (D := D) (ci := 6) (v := .ref xb) (C := RX6) (T := TX6) (N := 8) hx hb hts in_X6_areBeside_X6 hown hK hP 0 rfl rfl 0 (by decide) (hts (.fieldLink RX6 10 "TypingCoach" "board" "LTypingCoach$Board;") (List.mem_of_getElem? (i := 1) rfl)) (fun _ h9 => h9) rfl dX6_areBeside_9 ?_
  refine lv_iload_n hx hb dX6_areBeside_12 rfl (lv_at hl 1 rfl) ?_
  refine lv_iload_n hx hb dX6_areBeside_13 rfl (lv_at hl 2 rfl) ?_
  refine rdV (As := [.int i, .int j]) (rest := []) ⟨hx, hb, hml, hown, hts⟩ (c_X0_touch l D z q xb b1 w1 b2 w2 pl lo i j) (cwV 2 hts gX6_areBeside_X0_touch rfl rfl rfl hd_X0_touch ⟨Nat.le_of_ble_eq_true rfl, Nat.le_of_ble_eq_true rfl⟩) hE hS hA hP [1, 2, 3, 4, 5] rfl rfl rfl rfl rfl hl.1 rfl (Nat.le_of_ble_eq_true rfl) dX6_areBeside_14 ⟨(Nat.le_of_ble_eq_true rfl), (Nat.le_of_ble_eq_true rfl)⟩ ?_
  exact tx_z hx hb hr hlocks (bTouch_n _ _ _) hP hD hS dX6_areBeside_17 (⟨c_1, c_2⟩) (rfl) (rfl) (Nat.le_of_ble_eq_true rfl) (Nat.le_of_ble_eq_true rfl)
set_option maxRecDepth 20000 in
theorem in_X6_mirror_X6 : ∀ w ∈ wsX60, w ∈ wsX6_mirror := mem_r _ [32, 33, 34, 35, 36, 37, 38, 39] (by decide +kernel)
theorem hd_X6_mirror : yX6_mirror.cls = RX6 ∧ yX6_mirror.cls ≠ "java/lang/invoke/MethodHandle" ∧ yX6_mirror.cls ≠ "java/lang/invoke/VarHandle" ∧ (parseMethodDescriptor yX6_mirror.desc).map (fun d => d.parameters.length) = some 1 := by decide +kernel
set_option maxHeartbeats 4000000 in
set_option maxRecDepth 100000 in
theorem c_X6_mirror (l : Launch) (D : va_G) (z : Nat → ClassId) (q : Nat → Nat) (xo : Nat) (xb : Nat) (xg : Nat) (xn : Nat) (xt : Nat) (xp : Nat) (xk : Nat) (xf : Nat) (dy : Int32) (b1 : Nat) (w1 : Nat) (b2 : Nat) (w2 : Nat) (pl : Nat → Int32) (lo : Nat → Int32) (i : Int32) (sz : Nat) (hlt : l.stackTraces = false) : TX l yX6_mirror wsX6_mirror ({ frames := 7, cells := 3, slots := 18, locals := 140 } : Room) D z q [.ref xo, .int i] [(xo, .inr (6, [.ref xb, .ref xg, .ref xn, .ref xt, .ref xp, .ref xk, .ref xf, .int dy])), (xb, .inr (0, [.ref b1, .ref b2])), (b1, .inr (1, [.ref w1])), (w1, .inl (z 0, 26, .inl pl)), (b2, .inr (1, [.ref w2])), (w2, .inl (z 0, 30, .inl lo))] sz [(xo, .inr (6, [.ref xb, .ref xg, .ref xn, .ref xt, .ref xp, .ref xk, .ref xf, .int dy])), (xb, .inr (0, [.ref b1, .ref b2])), (b1, .inr (1, [.ref w1])), (w1, .inl (z 0, 26, .inl pl)), (b2, .inr (1, [.ref w2])), (w2, .inl (z 0, 30, .inl lo))] (some (.int (bMir pl lo i))) (¬ bW i 0 25 = 0) (fun E => (bW i 0 25 = 0 ∧ E = xI)) := by
  refine TX_mk (Qc := fun A a st o t => (¬ bW i 0 25 = 0) ∧ QW D [(xo, .inr (6, [.ref xb, .ref xg, .ref xn, .ref xt, .ref xp, .ref xk, .ref xf, .int dy])), (xb, .inr (0, [.ref b1, .ref b2])), (b1, .inr (1, [.ref w1])), (w1, .inl (z 0, 26, .inl pl)), (b2, .inr (1, [.ref w2])), (w2, .inl (z 0, 30, .inl lo))] A (some (.int (bMir pl lo i))) a st o t) (XC := XK (fun E => (bW i 0 25 = 0 ∧ E = xI))) (mc := 3) (ms := 18) (cc := cX6_mirror) (maxL := 2) (ret := (some .int)) (by decide) rfl (Nat.le_of_ble_eq_true rfl) ?_
  intro p e s m below meth c A hx hb hr hml hts hown hlocks hout H hH0 hP hD hE hS hA ls hl
  have hK := hE.1
  have hown : s.vm.findClass RX6 = some m.cls := hown
  have hl : lv_has ls 2 [(0, .ref xo), (1, .int i)] := hl
  refine lv_iload_n hx hb dX6_mirror_0 rfl (lv_at hl 1 rfl) ?_
  refine tsS (As := [.int i]) (rest := []) (mc := 3) (ms := 18) ⟨hx, hb, hml, hown, hts⟩ (c_X6_needLetter l D z q i hlt) (va_cwS 1 hts gX6_mirror_X6_needLetter rfl rfl rfl hd_X6_needLetter ⟨Nat.le_of_ble_eq_true rfl, Nat.le_of_ble_eq_true rfl⟩) hE hS hA hP hH0 hout hlocks rfl hl.1 rfl (Nat.le_of_ble_eq_true rfl) dX6_mirror_1 ⟨(Nat.le_of_ble_eq_true rfl), (Nat.le_of_ble_eq_true rfl)⟩ (fun E h => ⟨h.1, h.2⟩) (Nat.le_of_ble_eq_true rfl) (Nat.le_of_ble_eq_true rfl) (fun c_1 => ?_)
  refine W.widen (k := 1) (n := 6) (Nat.le_refl _) (Nat.le_refl _) ?_
  refine lv_aload_n hx hb dX6_mirror_4 rfl (lv_at hl 0 rfl) ?_
  refine va_get (D := D) (ci := 6) (v := .ref xb) (C := RX6) (T := TX6) (N := 8) hx hb hts in_X6_mirror_X6 hown hK hP 0 rfl rfl 0 (by decide) (hts (.fieldLink RX6 10 "TypingCoach" "board" "LTypingCoach$Board;") (List.mem_of_getElem? (i := 1) rfl)) (fun _ h9 => h9) rfl dX6_mirror_5 ?_
  refine lv_iload_n hx hb dX6_mirror_8 rfl (lv_at hl 1 rfl) ?_
  refine rdV (As := [.int i]) (rest := []) ⟨hx, hb, hml, hown, hts⟩ (c_X0_mirrorOf l D z q xb b1 w1 b2 w2 pl lo i) (cwV 1 hts gX6_mirror_X0_mirrorOf rfl rfl rfl hd_X0_mirrorOf ⟨Nat.le_of_ble_eq_true rfl, Nat.le_of_ble_eq_true rfl⟩) hE hS hA hP [1, 2, 3, 4, 5] rfl rfl rfl rfl rfl hl.1 rfl (Nat.le_of_ble_eq_true rfl) dX6_mirror_9 ⟨(Nat.le_of_ble_eq_true rfl), (Nat.le_of_ble_eq_true rfl)⟩ ?_
  exact tx_i hx hb hr hlocks hP hD hS dX6_mirror_12 (c_1) (rfl) (rfl) (Nat.le_of_ble_eq_true rfl) (Nat.le_of_ble_eq_true rfl)
set_option maxRecDepth 20000 in
theorem in_X6_want_X6 : ∀ w ∈ wsX60, w ∈ wsX6_want := mem_r _ [30, 31, 32, 33, 34, 35, 36, 37] (by decide +kernel)
set_option maxRecDepth 20000 in
theorem in_X6_want_X3 : ∀ w ∈ wsX30, w ∈ wsX6_want := mem_r _ [38, 39, 40, 41, 42, 43] (by decide +kernel)
theorem hd_X6_want : yX6_want.cls = RX6 ∧ yX6_want.cls ≠ "java/lang/invoke/MethodHandle" ∧ yX6_want.cls ≠ "java/lang/invoke/VarHandle" ∧ (parseMethodDescriptor yX6_want.desc).map (fun d => d.parameters.length) = some 1 := by decide +kernel
set_option maxHeartbeats 4000000 in
set_option maxRecDepth 100000 in
theorem c_X6_want (l : Launch) (D : va_G) (z : Nat → ClassId) (q : Nat → Nat) (xo : Nat) (xb : Nat) (xg : Nat) (xn : Nat) (xt : Nat) (xp : Nat) (xk : Nat) (xf : Nat) (dy : Int32) (t1 : Nat) (r1 : Nat) (t2 : Nat) (r2 : Nat) (lt : Nat → Int32) (ty : Nat → Int32) (zz : Int32) (po : Int32) (me : Int32) (ml : Int32) (i : Int32) (sz : Nat) (hlt : l.stackTraces = false) : TX l yX6_want wsX6_want ({ frames := 7, cells := 3, slots := 18, locals := 140 } : Room) D z q [.ref xo, .int i] [(xo, .inr (6, [.ref xb, .ref xg, .ref xn, .ref xt, .ref xp, .ref xk, .ref xf, .int dy])), (xt, .inr (3, [.ref t1, .ref t2, .int zz, .int po, .int me, .int ml])), (t1, .inr (1, [.ref r1])), (r1, .inl (z 0, 40, .inl lt)), (t2, .inr (1, [.ref r2])), (r2, .inl (z 0, 40, .inl ty))] sz [(xo, .inr (6, [.ref xb, .ref xg, .ref xn, .ref xt, .ref xp, .ref xk, .ref xf, .int dy])), (xt, .inr (3, [.ref t1, .ref t2, .int (zz + 1), .int po, .int me, .int ml])), (t1, .inr (1, [.ref r1])), (r1, .inl (z 0, 40, .inl (cSet 40 lt zz i))), (t2, .inr (1, [.ref r2])), (r2, .inl (z 0, 40, .inl ty))] (some (.int (zz + 1))) (¬ bW i 0 25 = 0 ∧ ¬ ¬ tFull zz = 0) (fun E => (bW i 0 25 = 0 ∧ E = xI) ∨ (¬ bW i 0 25 = 0 ∧ ¬ tFull zz = 0 ∧ E = xS)) := by
  refine TX_mk (Qc := fun A a st o t => (¬ bW i 0 25 = 0 ∧ ¬ ¬ tFull zz = 0) ∧ QW D [(xo, .inr (6, [.ref xb, .ref xg, .ref xn, .ref xt, .ref xp, .ref xk, .ref xf, .int dy])), (xt, .inr (3, [.ref t1, .ref t2, .int (zz + 1), .int po, .int me, .int ml])), (t1, .inr (1, [.ref r1])), (r1, .inl (z 0, 40, .inl (cSet 40 lt zz i))), (t2, .inr (1, [.ref r2])), (r2, .inl (z 0, 40, .inl ty))] A (some (.int (zz + 1))) a st o t) (XC := XK (fun E => (bW i 0 25 = 0 ∧ E = xI) ∨ (¬ bW i 0 25 = 0 ∧ ¬ tFull zz = 0 ∧ E = xS))) (mc := 3) (ms := 18) (cc := cX6_want) (maxL := 2) (ret := (some .int)) (by decide) rfl (Nat.le_of_ble_eq_true rfl) ?_
  intro p e s m below meth c A hx hb hr hml hts hown hlocks hout H hH0 hP hD hE hS hA ls hl
  have hK := hE.1
  have hown : s.vm.findClass RX6 = some m.cls := hown
  have hl : lv_has ls 2 [(0, .ref xo), (1, .int i)] := hl
  refine lv_iload_n hx hb dX6_want_0 rfl (lv_at hl 1 rfl) ?_
  refine tsS (As := [.int i]) (rest := []) (mc := 3) (ms := 18) ⟨hx, hb, hml, hown, hts⟩ (c_X6_needLetter l D z q i hlt) (va_cwS 1 hts gX6_want_X6_needLetter rfl rfl rfl hd_X6_needLetter ⟨Nat.le_of_ble_eq_true rfl, Nat.le_of_ble_eq_true rfl⟩) hE hS hA hP hH0 hout hlocks rfl hl.1 rfl (Nat.le_of_ble_eq_true rfl) dX6_want_1 ⟨(Nat.le_of_ble_eq_true rfl), (Nat.le_of_ble_eq_true rfl)⟩ (fun E h => Or.inl ⟨h.1, h.2⟩) (Nat.le_of_ble_eq_true rfl) (Nat.le_of_ble_eq_true rfl) (fun c_1 => ?_)
  refine W.widen (k := 1) (n := 6) (Nat.le_refl _) (Nat.le_refl _) ?_
  refine lv_aload_n hx hb dX6_want_4 rfl (lv_at hl 0 rfl) ?_
  refine va_get (D := D) (ci := 6) (v := .ref xt) (C := RX6) (T := TX6) (N := 8) hx hb hts in_X6_want_X6 hown hK hP 0 rfl rfl 3 (by decide) (hts (.fieldLink RX6 35 "TypingCoach" "lesson" "LTypingCoach$Lesson;") (List.mem_of_getElem? (i := 3) rfl)) (fun _ h9 => h9) rfl dX6_want_5 ?_
  refine rdV (As := []) (rest := []) ⟨hx, hb, hml, hown, hts⟩ (c_X3_isFull l D z q xt t1 r1 t2 r2 lt ty zz po me ml) (cwV 0 hts gX6_want_X3_isFull rfl rfl rfl hd_X3_isFull ⟨Nat.le_of_ble_eq_true rfl, Nat.le_of_ble_eq_true rfl⟩) hE hS hA hP [1, 2, 3, 4, 5] rfl rfl rfl rfl rfl hl.1 rfl (Nat.le_of_ble_eq_true rfl) dX6_want_8 ⟨(Nat.le_of_ble_eq_true rfl), (Nat.le_of_ble_eq_true rfl)⟩ ?_
  refine lv_if_eq (tgt := 24) hx hb dX6_want_11 (by decide) (fun c_2 => ?_) (fun c_2 => ?_)
  · refine lv_aload_n hx hb dX6_want_24 rfl (lv_at hl 0 rfl) ?_
    refine va_get (D := D) (ci := 6) (v := .ref xt) (C := RX6) (T := TX6) (N := 8) hx hb hts in_X6_want_X6 hown hK hP 0 rfl rfl 3 (by decide) (hts (.fieldLink RX6 35 "TypingCoach" "lesson" "LTypingCoach$Lesson;") (List.mem_of_getElem? (i := 3) rfl)) (fun _ h9 => h9) rfl dX6_want_25 ?_
    refine lv_iload_n hx hb dX6_want_28 rfl (lv_at hl 1 rfl) ?_
    refine wrVv (As := [.int i]) (rest := []) ⟨hx, hb, hml, hown, hts⟩ (c_X3_append l D z q xt t1 r1 t2 r2 lt ty zz po me ml i H.size) (cwV 1 hts gX6_want_X3_append rfl rfl rfl hd_X3_append ⟨Nat.le_of_ble_eq_true rfl, Nat.le_of_ble_eq_true rfl⟩) hE hS hA hP hD [1, 2, 3, 4, 5] rfl rfl rfl rfl rfl rfl rfl hl.1 rfl (Nat.le_of_ble_eq_true rfl) dX6_want_29 ⟨(Nat.le_of_ble_eq_true rfl), (Nat.le_of_ble_eq_true rfl)⟩ (fun H locs hP hD hS => ?_)
    have hP : va_P D vwCl [(xo, .inr (6, [.ref xb, .ref xg, .ref xn, .ref xt, .ref xp, .ref xk, .ref xf, .int dy])), (xt, .inr (3, [.ref t1, .ref t2, .int (zz + 1), .int po, .int me, .int ml])), (t1, .inr (1, [.ref r1])), (r1, .inl (z 0, 40, .inl (cSet 40 lt zz i))), (t2, .inr (1, [.ref r2])), (r2, .inl (z 0, 40, .inl ty))] H := hP
    have hD : va_D A [(xo, .inr (6, [.ref xb, .ref xg, .ref xn, .ref xt, .ref xp, .ref xk, .ref xf, .int dy])), (xt, .inr (3, [.ref t1, .ref t2, .int (zz + 1), .int po, .int me, .int ml])), (t1, .inr (1, [.ref r1])), (r1, .inl (z 0, 40, .inl (cSet 40 lt zz i))), (t2, .inr (1, [.ref r2])), (r2, .inl (z 0, 40, .inl ty))] := hD
    refine lv_aload_n hx hb dX6_want_32 rfl (lv_at hl 0 rfl) ?_
    refine va_get (D := D) (ci := 6) (v := .ref xt) (C := RX6) (T := TX6) (N := 8) hx hb hts in_X6_want_X6 hown hK hP 0 rfl rfl 3 (by decide) (hts (.fieldLink RX6 35 "TypingCoach" "lesson" "LTypingCoach$Lesson;") (List.mem_of_getElem? (i := 3) rfl)) (fun _ h9 => h9) rfl dX6_want_33 ?_
    refine va_getN (D := D) (ci := 3) (v := .int (zz + 1)) (C := RX3) (T := TX3) (N := 6) hx hb hts in_X6_want_X3 hown hK hP 1 rfl rfl 2 (by decide) (va_Nw.use rfl (hE.2.1.1 (104, "TypingCoach$Lesson", "size", "I") (List.mem_of_getElem? (i := 0) rfl))) (fun _ h9 => h9) rfl dX6_want_36 ?_
    exact tx_i hx hb hr hlocks hP hD hS dX6_want_39 (⟨c_1, (fun h9 => h9 c_2)⟩) (rfl) (rfl) (Nat.le_of_ble_eq_true rfl) (Nat.le_of_ble_eq_true rfl)
  · exact thr (is := 98) (text := "40 letters are wanted") (cls := xS) hx hb hlt hown fitS xSm (hts (.classLink RX6 96 "java/lang/IllegalStateException") (List.mem_of_getElem? (i := 1) rfl)) (hts (.initialized "java/lang/IllegalStateException") (List.mem_of_getElem? (i := 2) rfl)) (List.mem_of_getElem? (i := 12) rfl) ng100 (fun w h => hts w (List.mem_cons_of_mem _ (List.mem_append_left _ (List.mem_append_right _ h)))) gd100 hE hS hH0 hml hl.1 dX6_want_14 dX6_want_17 dX6_want_18 dX6_want_20 dX6_want_23 hout hlocks (Nat.le_of_ble_eq_true rfl) (Nat.le_of_ble_eq_true rfl) ⟨(Nat.le_of_ble_eq_true rfl), (Nat.le_of_ble_eq_true rfl)⟩ (Or.inr (⟨c_1, c_2, rfl⟩)) (Nat.le_of_ble_eq_true rfl) (Nat.le_of_ble_eq_true rfl)
set_option maxRecDepth 20000 in
theorem in_X6_wanted_X6 : ∀ w ∈ wsX60, w ∈ wsX6_wanted := mem_r _ [2, 3, 4, 5, 6, 7, 8, 9] (by decide +kernel)
set_option maxRecDepth 20000 in
theorem in_X6_wanted_X3 : ∀ w ∈ wsX30, w ∈ wsX6_wanted := mem_r _ [10, 11, 12, 13, 14, 15] (by decide +kernel)
theorem hd_X6_wanted : yX6_wanted.cls = RX6 ∧ yX6_wanted.cls ≠ "java/lang/invoke/MethodHandle" ∧ yX6_wanted.cls ≠ "java/lang/invoke/VarHandle" ∧ (parseMethodDescriptor yX6_wanted.desc).map (fun d => d.parameters.length) = some 0 := by decide +kernel
set_option maxHeartbeats 4000000 in
set_option maxRecDepth 100000 in
theorem c_X6_wanted (l : Launch) (D : va_G) (z : Nat → ClassId) (q : Nat → Nat) (xo : Nat) (xb : Nat) (xg : Nat) (xn : Nat) (xt : Nat) (xp : Nat) (xk : Nat) (xf : Nat) (dy : Int32) (t1 : Nat) (r1 : Nat) (t2 : Nat) (r2 : Nat) (lt : Nat → Int32) (ty : Nat → Int32) (zz : Int32) (po : Int32) (me : Int32) (ml : Int32)  : RD l yX6_wanted wsX6_wanted ({ frames := 0, cells := 0, slots := 0, locals := 0 } : Room) D z q [.ref xo] [(xo, .inr (6, [.ref xb, .ref xg, .ref xn, .ref xt, .ref xp, .ref xk, .ref xf, .int dy])), (xt, .inr (3, [.ref t1, .ref t2, .int zz, .int po, .int me, .int ml])), (t1, .inr (1, [.ref r1])), (r1, .inl (z 0, 40, .inl lt)), (t2, .inr (1, [.ref r2])), (r2, .inl (z 0, 40, .inl ty))] (some (.int zz)) := by
  refine RD_mk (cc := cX6_wanted) (maxL := 1) (ret := (some .int)) (by decide) rfl (Nat.le_of_ble_eq_true rfl) ?_
  intro p e s m below meth c hx hb hr hml hts hown hlocks hP hE hS hA ls hl
  have hK := hE.1
  have hown : s.vm.findClass RX6 = some m.cls := hown
  have hl : lv_has ls 1 [(0, .ref xo)] := hl
  refine lv_aload_n hx hb dX6_wanted_0 rfl (lv_at hl 0 rfl) ?_
  refine va_get (D := D) (ci := 6) (v := .ref xt) (C := RX6) (T := TX6) (N := 8) hx hb hts in_X6_wanted_X6 hown hK hP 0 rfl rfl 3 (by decide) (hts (.fieldLink RX6 35 "TypingCoach" "lesson" "LTypingCoach$Lesson;") (List.mem_of_getElem? (i := 1) rfl)) (fun _ h9 => h9) rfl dX6_wanted_1 ?_
  refine va_getN (D := D) (ci := 3) (v := .int zz) (C := RX3) (T := TX3) (N := 6) hx hb hts in_X6_wanted_X3 hown hK hP 1 rfl rfl 2 (by decide) (va_Nw.use rfl (hE.2.1.1 (104, "TypingCoach$Lesson", "size", "I") (List.mem_of_getElem? (i := 0) rfl))) (fun _ h9 => h9) rfl dX6_wanted_4 ?_
  exact rd_i hx hb hr hlocks dX6_wanted_7 (rfl)
set_option maxRecDepth 20000 in
theorem in_X6_wantedAt_X6 : ∀ w ∈ wsX60, w ∈ wsX6_wantedAt := mem_r _ [21, 22, 23, 24, 25, 26, 27, 28] (by decide +kernel)
set_option maxRecDepth 20000 in
theorem in_X6_wantedAt_X3 : ∀ w ∈ wsX30, w ∈ wsX6_wantedAt := mem_r _ [29, 30, 31, 32, 33, 34] (by decide +kernel)
theorem hd_X6_wantedAt : yX6_wantedAt.cls = RX6 ∧ yX6_wantedAt.cls ≠ "java/lang/invoke/MethodHandle" ∧ yX6_wantedAt.cls ≠ "java/lang/invoke/VarHandle" ∧ (parseMethodDescriptor yX6_wantedAt.desc).map (fun d => d.parameters.length) = some 1 := by decide +kernel
set_option maxHeartbeats 4000000 in
set_option maxRecDepth 100000 in
theorem c_X6_wantedAt (l : Launch) (D : va_G) (z : Nat → ClassId) (q : Nat → Nat) (xo : Nat) (xb : Nat) (xg : Nat) (xn : Nat) (xt : Nat) (xp : Nat) (xk : Nat) (xf : Nat) (dy : Int32) (t1 : Nat) (r1 : Nat) (t2 : Nat) (r2 : Nat) (lt : Nat → Int32) (ty : Nat → Int32) (zz : Int32) (po : Int32) (me : Int32) (ml : Int32) (i : Int32) (sz : Nat) (hlt : l.stackTraces = false) : TX l yX6_wantedAt wsX6_wantedAt ({ frames := 6, cells := 3, slots := 18, locals := 120 } : Room) D z q [.ref xo, .int i] [(xo, .inr (6, [.ref xb, .ref xg, .ref xn, .ref xt, .ref xp, .ref xk, .ref xf, .int dy])), (xt, .inr (3, [.ref t1, .ref t2, .int zz, .int po, .int me, .int ml])), (t1, .inr (1, [.ref r1])), (r1, .inl (z 0, 40, .inl lt)), (t2, .inr (1, [.ref r2])), (r2, .inl (z 0, 40, .inl ty))] sz [(xo, .inr (6, [.ref xb, .ref xg, .ref xn, .ref xt, .ref xp, .ref xk, .ref xf, .int dy])), (xt, .inr (3, [.ref t1, .ref t2, .int zz, .int po, .int me, .int ml])), (t1, .inr (1, [.ref r1])), (r1, .inl (z 0, 40, .inl lt)), (t2, .inr (1, [.ref r2])), (r2, .inl (z 0, 40, .inl ty))] (some (.int (tAt lt zz i))) (¬ bW i 0 (zz - 1) = 0) (fun E => (bW i 0 (zz - 1) = 0 ∧ E = xI)) := by
  refine TX_mk (Qc := fun A a st o t => (¬ bW i 0 (zz - 1) = 0) ∧ QW D [(xo, .inr (6, [.ref xb, .ref xg, .ref xn, .ref xt, .ref xp, .ref xk, .ref xf, .int dy])), (xt, .inr (3, [.ref t1, .ref t2, .int zz, .int po, .int me, .int ml])), (t1, .inr (1, [.ref r1])), (r1, .inl (z 0, 40, .inl lt)), (t2, .inr (1, [.ref r2])), (r2, .inl (z 0, 40, .inl ty))] A (some (.int (tAt lt zz i))) a st o t) (XC := XK (fun E => (bW i 0 (zz - 1) = 0 ∧ E = xI))) (mc := 3) (ms := 18) (cc := cX6_wantedAt) (maxL := 2) (ret := (some .int)) (by decide) rfl (Nat.le_of_ble_eq_true rfl) ?_
  intro p e s m below meth c A hx hb hr hml hts hown hlocks hout H hH0 hP hD hE hS hA ls hl
  have hK := hE.1
  have hown : s.vm.findClass RX6 = some m.cls := hown
  have hl : lv_has ls 2 [(0, .ref xo), (1, .int i)] := hl
  refine lv_iload_n hx hb dX6_wantedAt_0 rfl (lv_at hl 1 rfl) ?_
  refine lv_iconst (v := 0) hx hb dX6_wantedAt_1 (by decide) ?_
  refine lv_aload_n hx hb dX6_wantedAt_2 rfl (lv_at hl 0 rfl) ?_
  refine va_get (D := D) (ci := 6) (v := .ref xt) (C := RX6) (T := TX6) (N := 8) hx hb hts in_X6_wantedAt_X6 hown hK hP 0 rfl rfl 3 (by decide) (hts (.fieldLink RX6 35 "TypingCoach" "lesson" "LTypingCoach$Lesson;") (List.mem_of_getElem? (i := 3) rfl)) (fun _ h9 => h9) rfl dX6_wantedAt_3 ?_
  refine va_getN (D := D) (ci := 3) (v := .int zz) (C := RX3) (T := TX3) (N := 6) hx hb hts in_X6_wantedAt_X3 hown hK hP 1 rfl rfl 2 (by decide) (va_Nw.use rfl (hE.2.1.1 (104, "TypingCoach$Lesson", "size", "I") (List.mem_of_getElem? (i := 0) rfl))) (fun _ h9 => h9) rfl dX6_wantedAt_6 ?_
  refine lv_iconst (v := 1) hx hb dX6_wantedAt_9 (by decide) ?_
  refine lv_isub hx hb dX6_wantedAt_10 ?_
  refine rdS (As := [.int i, .int 0, .int (zz - 1)]) (rest := []) ⟨hx, hb, hml, hown, hts⟩ (c_X6_isWithin l D z q i 0 (zz - 1)) (va_cwS 3 hts gX6_wantedAt_X6_isWithin rfl rfl rfl hd_X6_isWithin ⟨Nat.le_of_ble_eq_true rfl, Nat.le_of_ble_eq_true rfl⟩) hE hS hA hP [] rfl rfl hl.1 rfl (Nat.le_of_ble_eq_true rfl) dX6_wantedAt_11 ⟨(Nat.le_of_ble_eq_true rfl), (Nat.le_of_ble_eq_true rfl)⟩ ?_
  refine lv_if_ne (tgt := 27) hx hb dX6_wantedAt_14 (by decide) (fun c_1 => ?_) (fun c_1 => ?_)
  · refine lv_aload_n hx hb dX6_wantedAt_27 rfl (lv_at hl 0 rfl) ?_
    refine va_get (D := D) (ci := 6) (v := .ref xt) (C := RX6) (T := TX6) (N := 8) hx hb hts in_X6_wantedAt_X6 hown hK hP 0 rfl rfl 3 (by decide) (hts (.fieldLink RX6 35 "TypingCoach" "lesson" "LTypingCoach$Lesson;") (List.mem_of_getElem? (i := 3) rfl)) (fun _ h9 => h9) rfl dX6_wantedAt_28 ?_
    refine lv_iload_n hx hb dX6_wantedAt_31 rfl (lv_at hl 1 rfl) ?_
    refine rdV (As := [.int i]) (rest := []) ⟨hx, hb, hml, hown, hts⟩ (c_X3_letterAt l D z q xt t1 r1 t2 r2 lt ty zz po me ml i) (cwV 1 hts gX6_wantedAt_X3_letterAt rfl rfl rfl hd_X3_letterAt ⟨Nat.le_of_ble_eq_true rfl, Nat.le_of_ble_eq_true rfl⟩) hE hS hA hP [1, 2, 3, 4, 5] rfl rfl rfl rfl rfl hl.1 rfl (Nat.le_of_ble_eq_true rfl) dX6_wantedAt_32 ⟨(Nat.le_of_ble_eq_true rfl), (Nat.le_of_ble_eq_true rfl)⟩ ?_
    exact tx_i hx hb hr hlocks hP hD hS dX6_wantedAt_35 (c_1) (rfl) (rfl) (Nat.le_of_ble_eq_true rfl) (Nat.le_of_ble_eq_true rfl)
  · exact thr (is := 119) (text := "no such position") (cls := xI) hx hb hlt hown fitI xIm (hts (.classLink RX6 70 "java/lang/IndexOutOfBoundsException") (List.mem_of_getElem? (i := 1) rfl)) (hts (.initialized "java/lang/IndexOutOfBoundsException") (List.mem_of_getElem? (i := 2) rfl)) (List.mem_of_getElem? (i := 1) rfl) ng74 (fun w h => hts w (List.mem_cons_of_mem _ (List.mem_append_right _ h))) gd74 hE hS hH0 hml hl.1 dX6_wantedAt_17 dX6_wantedAt_20 dX6_wantedAt_21 dX6_wantedAt_23 dX6_wantedAt_26 hout hlocks (Nat.le_of_ble_eq_true rfl) (Nat.le_of_ble_eq_true rfl) ⟨(Nat.le_of_ble_eq_true rfl), (Nat.le_of_ble_eq_true rfl)⟩ (⟨c_1, rfl⟩) (Nat.le_of_ble_eq_true rfl) (Nat.le_of_ble_eq_true rfl)
set_option maxRecDepth 20000 in
theorem in_X6_position_X6 : ∀ w ∈ wsX60, w ∈ wsX6_position := mem_r _ [2, 3, 4, 5, 6, 7, 8, 9] (by decide +kernel)
set_option maxRecDepth 20000 in
theorem in_X6_position_X3 : ∀ w ∈ wsX30, w ∈ wsX6_position := mem_r _ [10, 11, 12, 13, 14, 15] (by decide +kernel)
theorem hd_X6_position : yX6_position.cls = RX6 ∧ yX6_position.cls ≠ "java/lang/invoke/MethodHandle" ∧ yX6_position.cls ≠ "java/lang/invoke/VarHandle" ∧ (parseMethodDescriptor yX6_position.desc).map (fun d => d.parameters.length) = some 0 := by decide +kernel
set_option maxHeartbeats 4000000 in
set_option maxRecDepth 100000 in
theorem c_X6_position (l : Launch) (D : va_G) (z : Nat → ClassId) (q : Nat → Nat) (xo : Nat) (xb : Nat) (xg : Nat) (xn : Nat) (xt : Nat) (xp : Nat) (xk : Nat) (xf : Nat) (dy : Int32) (t1 : Nat) (r1 : Nat) (t2 : Nat) (r2 : Nat) (lt : Nat → Int32) (ty : Nat → Int32) (zz : Int32) (po : Int32) (me : Int32) (ml : Int32)  : RD l yX6_position wsX6_position ({ frames := 0, cells := 0, slots := 0, locals := 0 } : Room) D z q [.ref xo] [(xo, .inr (6, [.ref xb, .ref xg, .ref xn, .ref xt, .ref xp, .ref xk, .ref xf, .int dy])), (xt, .inr (3, [.ref t1, .ref t2, .int zz, .int po, .int me, .int ml])), (t1, .inr (1, [.ref r1])), (r1, .inl (z 0, 40, .inl lt)), (t2, .inr (1, [.ref r2])), (r2, .inl (z 0, 40, .inl ty))] (some (.int po)) := by
  refine RD_mk (cc := cX6_position) (maxL := 1) (ret := (some .int)) (by decide) rfl (Nat.le_of_ble_eq_true rfl) ?_
  intro p e s m below meth c hx hb hr hml hts hown hlocks hP hE hS hA ls hl
  have hK := hE.1
  have hown : s.vm.findClass RX6 = some m.cls := hown
  have hl : lv_has ls 1 [(0, .ref xo)] := hl
  refine lv_aload_n hx hb dX6_position_0 rfl (lv_at hl 0 rfl) ?_
  refine va_get (D := D) (ci := 6) (v := .ref xt) (C := RX6) (T := TX6) (N := 8) hx hb hts in_X6_position_X6 hown hK hP 0 rfl rfl 3 (by decide) (hts (.fieldLink RX6 35 "TypingCoach" "lesson" "LTypingCoach$Lesson;") (List.mem_of_getElem? (i := 1) rfl)) (fun _ h9 => h9) rfl dX6_position_1 ?_
  refine va_getN (D := D) (ci := 3) (v := .int po) (C := RX3) (T := TX3) (N := 6) hx hb hts in_X6_position_X3 hown hK hP 1 rfl rfl 3 (by decide) (va_Nw.use rfl (hE.2.1.1 (124, "TypingCoach$Lesson", "position", "I") (List.mem_of_getElem? (i := 1) rfl))) (fun _ h9 => h9) rfl dX6_position_4 ?_
  exact rd_i hx hb hr hlocks dX6_position_7 (rfl)
set_option maxRecDepth 20000 in
theorem in_X6_mended_X6 : ∀ w ∈ wsX60, w ∈ wsX6_mended := mem_r _ [2, 3, 4, 5, 6, 7, 8, 9] (by decide +kernel)
set_option maxRecDepth 20000 in
theorem in_X6_mended_X3 : ∀ w ∈ wsX30, w ∈ wsX6_mended := mem_r _ [10, 11, 12, 13, 14, 15] (by decide +kernel)
theorem hd_X6_mended : yX6_mended.cls = RX6 ∧ yX6_mended.cls ≠ "java/lang/invoke/MethodHandle" ∧ yX6_mended.cls ≠ "java/lang/invoke/VarHandle" ∧ (parseMethodDescriptor yX6_mended.desc).map (fun d => d.parameters.length) = some 0 := by decide +kernel
set_option maxHeartbeats 4000000 in
set_option maxRecDepth 100000 in
theorem c_X6_mended (l : Launch) (D : va_G) (z : Nat → ClassId) (q : Nat → Nat) (xo : Nat) (xb : Nat) (xg : Nat) (xn : Nat) (xt : Nat) (xp : Nat) (xk : Nat) (xf : Nat) (dy : Int32) (t1 : Nat) (r1 : Nat) (t2 : Nat) (r2 : Nat) (lt : Nat → Int32) (ty : Nat → Int32) (zz : Int32) (po : Int32) (me : Int32) (ml : Int32)  : RD l yX6_mended wsX6_mended ({ frames := 0, cells := 0, slots := 0, locals := 0 } : Room) D z q [.ref xo] [(xo, .inr (6, [.ref xb, .ref xg, .ref xn, .ref xt, .ref xp, .ref xk, .ref xf, .int dy])), (xt, .inr (3, [.ref t1, .ref t2, .int zz, .int po, .int me, .int ml])), (t1, .inr (1, [.ref r1])), (r1, .inl (z 0, 40, .inl lt)), (t2, .inr (1, [.ref r2])), (r2, .inl (z 0, 40, .inl ty))] (some (.int me)) := by
  refine RD_mk (cc := cX6_mended) (maxL := 1) (ret := (some .int)) (by decide) rfl (Nat.le_of_ble_eq_true rfl) ?_
  intro p e s m below meth c hx hb hr hml hts hown hlocks hP hE hS hA ls hl
  have hK := hE.1
  have hown : s.vm.findClass RX6 = some m.cls := hown
  have hl : lv_has ls 1 [(0, .ref xo)] := hl
  refine lv_aload_n hx hb dX6_mended_0 rfl (lv_at hl 0 rfl) ?_
  refine va_get (D := D) (ci := 6) (v := .ref xt) (C := RX6) (T := TX6) (N := 8) hx hb hts in_X6_mended_X6 hown hK hP 0 rfl rfl 3 (by decide) (hts (.fieldLink RX6 35 "TypingCoach" "lesson" "LTypingCoach$Lesson;") (List.mem_of_getElem? (i := 1) rfl)) (fun _ h9 => h9) rfl dX6_mended_1 ?_
  refine va_getN (D := D) (ci := 3) (v := .int me) (C := RX3) (T := TX3) (N := 6) hx hb hts in_X6_mended_X3 hown hK hP 1 rfl rfl 4 (by decide) (va_Nw.use rfl (hE.2.1.1 (157, "TypingCoach$Lesson", "mendedStrokes", "I") (List.mem_of_getElem? (i := 2) rfl))) (fun _ h9 => h9) rfl dX6_mended_4 ?_
  exact rd_i hx hb hr hlocks dX6_mended_7 (rfl)
set_option maxRecDepth 20000 in
theorem in_X6_speed_X6 : ∀ w ∈ wsX60, w ∈ wsX6_speed := mem_r _ [22, 23, 24, 25, 26, 27, 28, 29] (by decide +kernel)
theorem hd_X6_speed : yX6_speed.cls = RX6 ∧ yX6_speed.cls ≠ "java/lang/invoke/MethodHandle" ∧ yX6_speed.cls ≠ "java/lang/invoke/VarHandle" ∧ (parseMethodDescriptor yX6_speed.desc).map (fun d => d.parameters.length) = some 0 := by decide +kernel
set_option maxHeartbeats 4000000 in
set_option maxRecDepth 100000 in
theorem c_X6_speed (l : Launch) (D : va_G) (z : Nat → ClassId) (q : Nat → Nat) (xo : Nat) (xb : Nat) (xg : Nat) (xn : Nat) (xt : Nat) (xp : Nat) (xk : Nat) (xf : Nat) (dy : Int32) (t1 : Nat) (r1 : Nat) (t2 : Nat) (r2 : Nat) (lt : Nat → Int32) (ty : Nat → Int32) (zz : Int32) (po : Int32) (me : Int32) (ml : Int32) (ps : Nat) (hps : po = nI ps) (hp40 : ps ≤ 40) : RD l yX6_speed wsX6_speed ({ frames := 3, cells := 0, slots := 0, locals := 63 } : Room) D z q [.ref xo] [(xo, .inr (6, [.ref xb, .ref xg, .ref xn, .ref xt, .ref xp, .ref xk, .ref xf, .int dy])), (xt, .inr (3, [.ref t1, .ref t2, .int zz, .int po, .int me, .int ml])), (t1, .inr (1, [.ref r1])), (r1, .inl (z 0, 40, .inl lt)), (t2, .inr (1, [.ref r2])), (r2, .inl (z 0, 40, .inl ty))] (some (.int (tSpeed lt ty ps ml))) := by
  refine RD_mk (cc := cX6_speed) (maxL := 1) (ret := (some .int)) (by decide) rfl (Nat.le_of_ble_eq_true rfl) ?_
  intro p e s m below meth c hx hb hr hml hts hown hlocks hP hE hS hA ls hl
  have hK := hE.1
  have hown : s.vm.findClass RX6 = some m.cls := hown
  have hl : lv_has ls 1 [(0, .ref xo)] := hl
  refine lv_aload_n hx hb dX6_speed_0 rfl (lv_at hl 0 rfl) ?_
  refine va_get (D := D) (ci := 6) (v := .ref xt) (C := RX6) (T := TX6) (N := 8) hx hb hts in_X6_speed_X6 hown hK hP 0 rfl rfl 3 (by decide) (hts (.fieldLink RX6 35 "TypingCoach" "lesson" "LTypingCoach$Lesson;") (List.mem_of_getElem? (i := 1) rfl)) (fun _ h9 => h9) rfl dX6_speed_1 ?_
  refine rdV (As := []) (rest := []) ⟨hx, hb, hml, hown, hts⟩ (c_X3_speedSoFar l D z q xt t1 r1 t2 r2 lt ty zz po me ml ps hps hp40) (cwV 0 hts gX6_speed_X3_speedSoFar rfl rfl rfl hd_X3_speedSoFar ⟨Nat.le_of_ble_eq_true rfl, Nat.le_of_ble_eq_true rfl⟩) hE hS hA hP [1, 2, 3, 4, 5] rfl rfl rfl rfl rfl hl.1 rfl (Nat.le_of_ble_eq_true rfl) dX6_speed_4 ⟨(Nat.le_of_ble_eq_true rfl), (Nat.le_of_ble_eq_true rfl)⟩ ?_
  exact rd_i hx hb hr hlocks dX6_speed_7 (rfl)
set_option maxRecDepth 20000 in
theorem in_X6_back_X6 : ∀ w ∈ wsX60, w ∈ wsX6_back := mem_r _ [21, 22, 23, 24, 25, 26, 27, 28] (by decide +kernel)
set_option maxRecDepth 20000 in
theorem in_X6_back_X3 : ∀ w ∈ wsX30, w ∈ wsX6_back := mem_r _ [29, 30, 31, 32, 33, 34] (by decide +kernel)
theorem hd_X6_back : yX6_back.cls = RX6 ∧ yX6_back.cls ≠ "java/lang/invoke/MethodHandle" ∧ yX6_back.cls ≠ "java/lang/invoke/VarHandle" ∧ (parseMethodDescriptor yX6_back.desc).map (fun d => d.parameters.length) = some 1 := by decide +kernel
set_option maxHeartbeats 4000000 in
set_option maxRecDepth 100000 in
theorem c_X6_back (l : Launch) (D : va_G) (z : Nat → ClassId) (q : Nat → Nat) (xo : Nat) (xb : Nat) (xg : Nat) (xn : Nat) (xt : Nat) (xp : Nat) (xk : Nat) (xf : Nat) (dy : Int32) (t1 : Nat) (r1 : Nat) (t2 : Nat) (r2 : Nat) (lt : Nat → Int32) (ty : Nat → Int32) (zz : Int32) (po : Int32) (me : Int32) (ml : Int32) (mo : Int32) (sz : Nat) (hlt : l.stackTraces = false) : TX l yX6_back wsX6_back ({ frames := 7, cells := 3, slots := 18, locals := 140 } : Room) D z q [.ref xo, .int mo] [(xo, .inr (6, [.ref xb, .ref xg, .ref xn, .ref xt, .ref xp, .ref xk, .ref xf, .int dy])), (xt, .inr (3, [.ref t1, .ref t2, .int zz, .int po, .int me, .int ml])), (t1, .inr (1, [.ref r1])), (r1, .inl (z 0, 40, .inl lt)), (t2, .inr (1, [.ref r2])), (r2, .inl (z 0, 40, .inl ty))] sz [(xo, .inr (6, [.ref xb, .ref xg, .ref xn, .ref xt, .ref xp, .ref xk, .ref xf, .int dy])), (xt, .inr (3, [.ref t1, .ref t2, .int zz, .int (po - 1), .int (me + 1), .int (ml + mo)])), (t1, .inr (1, [.ref r1])), (r1, .inl (z 0, 40, .inl lt)), (t2, .inr (1, [.ref r2])), (r2, .inl (z 0, 40, .inl ty))] (some (.int (po - 1))) (¬ bW mo 1 5000 = 0 ∧ ¬ po = 0) (fun E => (bW mo 1 5000 = 0 ∧ E = xA) ∨ (¬ bW mo 1 5000 = 0 ∧ po = 0 ∧ E = xS)) := by
  refine TX_mk (Qc := fun A a st o t => (¬ bW mo 1 5000 = 0 ∧ ¬ po = 0) ∧ QW D [(xo, .inr (6, [.ref xb, .ref xg, .ref xn, .ref xt, .ref xp, .ref xk, .ref xf, .int dy])), (xt, .inr (3, [.ref t1, .ref t2, .int zz, .int (po - 1), .int (me + 1), .int (ml + mo)])), (t1, .inr (1, [.ref r1])), (r1, .inl (z 0, 40, .inl lt)), (t2, .inr (1, [.ref r2])), (r2, .inl (z 0, 40, .inl ty))] A (some (.int (po - 1))) a st o t) (XC := XK (fun E => (bW mo 1 5000 = 0 ∧ E = xA) ∨ (¬ bW mo 1 5000 = 0 ∧ po = 0 ∧ E = xS))) (mc := 3) (ms := 18) (cc := cX6_back) (maxL := 2) (ret := (some .int)) (by decide) rfl (Nat.le_of_ble_eq_true rfl) ?_
  intro p e s m below meth c A hx hb hr hml hts hown hlocks hout H hH0 hP hD hE hS hA ls hl
  have hK := hE.1
  have hown : s.vm.findClass RX6 = some m.cls := hown
  have hl : lv_has ls 2 [(0, .ref xo), (1, .int mo)] := hl
  refine lv_iload_n hx hb dX6_back_0 rfl (lv_at hl 1 rfl) ?_
  refine tsS (As := [.int mo]) (rest := []) (mc := 3) (ms := 18) ⟨hx, hb, hml, hown, hts⟩ (c_X6_needMillis l D z q mo hlt) (va_cwS 1 hts gX6_back_X6_needMillis rfl rfl rfl hd_X6_needMillis ⟨Nat.le_of_ble_eq_true rfl, Nat.le_of_ble_eq_true rfl⟩) hE hS hA hP hH0 hout hlocks rfl hl.1 rfl (Nat.le_of_ble_eq_true rfl) dX6_back_1 ⟨(Nat.le_of_ble_eq_true rfl), (Nat.le_of_ble_eq_true rfl)⟩ (fun E h => Or.inl ⟨h.1, h.2⟩) (Nat.le_of_ble_eq_true rfl) (Nat.le_of_ble_eq_true rfl) (fun c_1 => ?_)
  refine W.widen (k := 1) (n := 6) (Nat.le_refl _) (Nat.le_refl _) ?_
  refine lv_aload_n hx hb dX6_back_4 rfl (lv_at hl 0 rfl) ?_
  refine va_get (D := D) (ci := 6) (v := .ref xt) (C := RX6) (T := TX6) (N := 8) hx hb hts in_X6_back_X6 hown hK hP 0 rfl rfl 3 (by decide) (hts (.fieldLink RX6 35 "TypingCoach" "lesson" "LTypingCoach$Lesson;") (List.mem_of_getElem? (i := 3) rfl)) (fun _ h9 => h9) rfl dX6_back_5 ?_
  refine va_getN (D := D) (ci := 3) (v := .int po) (C := RX3) (T := TX3) (N := 6) hx hb hts in_X6_back_X3 hown hK hP 1 rfl rfl 3 (by decide) (va_Nw.use rfl (hE.2.1.1 (124, "TypingCoach$Lesson", "position", "I") (List.mem_of_getElem? (i := 1) rfl))) (fun _ h9 => h9) rfl dX6_back_8 ?_
  refine lv_if_ne (tgt := 24) hx hb dX6_back_11 (by decide) (fun c_2 => ?_) (fun c_2 => ?_)
  · refine lv_aload_n hx hb dX6_back_24 rfl (lv_at hl 0 rfl) ?_
    refine va_get (D := D) (ci := 6) (v := .ref xt) (C := RX6) (T := TX6) (N := 8) hx hb hts in_X6_back_X6 hown hK hP 0 rfl rfl 3 (by decide) (hts (.fieldLink RX6 35 "TypingCoach" "lesson" "LTypingCoach$Lesson;") (List.mem_of_getElem? (i := 3) rfl)) (fun _ h9 => h9) rfl dX6_back_25 ?_
    refine lv_iload_n hx hb dX6_back_28 rfl (lv_at hl 1 rfl) ?_
    refine wrVv (As := [.int mo]) (rest := []) ⟨hx, hb, hml, hown, hts⟩ (c_X3_goBack l D z q xt t1 r1 t2 r2 lt ty zz po me ml mo H.size) (cwV 1 hts gX6_back_X3_goBack rfl rfl rfl hd_X3_goBack ⟨Nat.le_of_ble_eq_true rfl, Nat.le_of_ble_eq_true rfl⟩) hE hS hA hP hD [1, 2, 3, 4, 5] rfl rfl rfl rfl rfl rfl rfl hl.1 rfl (Nat.le_of_ble_eq_true rfl) dX6_back_29 ⟨(Nat.le_of_ble_eq_true rfl), (Nat.le_of_ble_eq_true rfl)⟩ (fun H locs hP hD hS => ?_)
    have hP : va_P D vwCl [(xo, .inr (6, [.ref xb, .ref xg, .ref xn, .ref xt, .ref xp, .ref xk, .ref xf, .int dy])), (xt, .inr (3, [.ref t1, .ref t2, .int zz, .int (po - 1), .int (me + 1), .int (ml + mo)])), (t1, .inr (1, [.ref r1])), (r1, .inl (z 0, 40, .inl lt)), (t2, .inr (1, [.ref r2])), (r2, .inl (z 0, 40, .inl ty))] H := hP
    have hD : va_D A [(xo, .inr (6, [.ref xb, .ref xg, .ref xn, .ref xt, .ref xp, .ref xk, .ref xf, .int dy])), (xt, .inr (3, [.ref t1, .ref t2, .int zz, .int (po - 1), .int (me + 1), .int (ml + mo)])), (t1, .inr (1, [.ref r1])), (r1, .inl (z 0, 40, .inl lt)), (t2, .inr (1, [.ref r2])), (r2, .inl (z 0, 40, .inl ty))] := hD
    refine lv_aload_n hx hb dX6_back_32 rfl (lv_at hl 0 rfl) ?_
    refine va_get (D := D) (ci := 6) (v := .ref xt) (C := RX6) (T := TX6) (N := 8) hx hb hts in_X6_back_X6 hown hK hP 0 rfl rfl 3 (by decide) (hts (.fieldLink RX6 35 "TypingCoach" "lesson" "LTypingCoach$Lesson;") (List.mem_of_getElem? (i := 3) rfl)) (fun _ h9 => h9) rfl dX6_back_33 ?_
    refine va_getN (D := D) (ci := 3) (v := .int (po - 1)) (C := RX3) (T := TX3) (N := 6) hx hb hts in_X6_back_X3 hown hK hP 1 rfl rfl 3 (by decide) (va_Nw.use rfl (hE.2.1.1 (124, "TypingCoach$Lesson", "position", "I") (List.mem_of_getElem? (i := 1) rfl))) (fun _ h9 => h9) rfl dX6_back_36 ?_
    exact tx_i hx hb hr hlocks hP hD hS dX6_back_39 (⟨c_1, c_2⟩) (rfl) (rfl) (Nat.le_of_ble_eq_true rfl) (Nat.le_of_ble_eq_true rfl)
  · exact thr (is := 149) (text := "the position is 0") (cls := xS) hx hb hlt hown fitS xSm (hts (.classLink RX6 96 "java/lang/IllegalStateException") (List.mem_of_getElem? (i := 1) rfl)) (hts (.initialized "java/lang/IllegalStateException") (List.mem_of_getElem? (i := 2) rfl)) (List.mem_of_getElem? (i := 3) rfl) ng100 (fun w h => hts w (List.mem_cons_of_mem _ (List.mem_append_left _ (List.mem_append_right _ h)))) gd100 hE hS hH0 hml hl.1 dX6_back_14 dX6_back_17 dX6_back_18 dX6_back_20 dX6_back_23 hout hlocks (Nat.le_of_ble_eq_true rfl) (Nat.le_of_ble_eq_true rfl) ⟨(Nat.le_of_ble_eq_true rfl), (Nat.le_of_ble_eq_true rfl)⟩ (Or.inr (⟨c_1, c_2, rfl⟩)) (Nat.le_of_ble_eq_true rfl) (Nat.le_of_ble_eq_true rfl)
set_option maxRecDepth 20000 in
theorem in_X6_count_X6 : ∀ w ∈ wsX60, w ∈ wsX6_count := mem_r _ [17, 18, 19, 20, 21, 22, 23, 24] (by decide +kernel)
set_option maxRecDepth 20000 in
theorem in_X6_count_X2 : ∀ w ∈ wsX20, w ∈ wsX6_count := mem_r _ [25, 26, 27, 28, 29, 30] (by decide +kernel)
theorem hd_X6_count : yX6_count.cls = RX6 ∧ yX6_count.cls ≠ "java/lang/invoke/MethodHandle" ∧ yX6_count.cls ≠ "java/lang/invoke/VarHandle" ∧ (parseMethodDescriptor yX6_count.desc).map (fun d => d.parameters.length) = some 1 := by decide +kernel
set_option maxHeartbeats 4000000 in
set_option maxRecDepth 100000 in
theorem c_X6_count (l : Launch) (D : va_G) (z : Nat → ClassId) (q : Nat → Nat) (xo : Nat) (xb : Nat) (xg : Nat) (xn : Nat) (xt : Nat) (xp : Nat) (xk : Nat) (xf : Nat) (dy : Int32) (g1 : Nat) (y1 : Nat) (g2 : Nat) (y2 : Nat) (g3 : Nat) (y3 : Nat) (g4 : Nat) (y4 : Nat) (ct : Nat → Int32) (ti : Nat → Int32) (sh : Nat → Int32) (pr : Nat → Int32) (wt : Int32) (wh : Int32) (i : Int32) (sz : Nat) (hlt : l.stackTraces = false) : TX l yX6_count wsX6_count ({ frames := 7, cells := 3, slots := 18, locals := 140 } : Room) D z q [.ref xo, .int i] [(xo, .inr (6, [.ref xb, .ref xg, .ref xn, .ref xt, .ref xp, .ref xk, .ref xf, .int dy])), (xg, .inr (2, [.ref g1, .ref g2, .ref g3, .ref g4, .int wt, .int wh])), (g1, .inr (1, [.ref y1])), (y1, .inl (z 0, 26, .inl ct)), (g2, .inr (1, [.ref y2])), (y2, .inl (z 0, 26, .inl ti)), (g3, .inr (1, [.ref y3])), (y3, .inl (z 0, 26, .inl sh)), (g4, .inr (1, [.ref y4])), (y4, .inl (z 0, 676, .inl pr))] sz [(xo, .inr (6, [.ref xb, .ref xg, .ref xn, .ref xt, .ref xp, .ref xk, .ref xf, .int dy])), (xg, .inr (2, [.ref g1, .ref g2, .ref g3, .ref g4, .int wt, .int wh])), (g1, .inr (1, [.ref y1])), (y1, .inl (z 0, 26, .inl ct)), (g2, .inr (1, [.ref y2])), (y2, .inl (z 0, 26, .inl ti)), (g3, .inr (1, [.ref y3])), (y3, .inl (z 0, 26, .inl sh)), (g4, .inr (1, [.ref y4])), (y4, .inl (z 0, 676, .inl pr))] (some (.int (cAt 26 ct i))) (¬ bW i 0 25 = 0) (fun E => (bW i 0 25 = 0 ∧ E = xI)) := by
  refine TX_mk (Qc := fun A a st o t => (¬ bW i 0 25 = 0) ∧ QW D [(xo, .inr (6, [.ref xb, .ref xg, .ref xn, .ref xt, .ref xp, .ref xk, .ref xf, .int dy])), (xg, .inr (2, [.ref g1, .ref g2, .ref g3, .ref g4, .int wt, .int wh])), (g1, .inr (1, [.ref y1])), (y1, .inl (z 0, 26, .inl ct)), (g2, .inr (1, [.ref y2])), (y2, .inl (z 0, 26, .inl ti)), (g3, .inr (1, [.ref y3])), (y3, .inl (z 0, 26, .inl sh)), (g4, .inr (1, [.ref y4])), (y4, .inl (z 0, 676, .inl pr))] A (some (.int (cAt 26 ct i))) a st o t) (XC := XK (fun E => (bW i 0 25 = 0 ∧ E = xI))) (mc := 3) (ms := 18) (cc := cX6_count) (maxL := 2) (ret := (some .int)) (by decide) rfl (Nat.le_of_ble_eq_true rfl) ?_
  intro p e s m below meth c A hx hb hr hml hts hown hlocks hout H hH0 hP hD hE hS hA ls hl
  have hK := hE.1
  have hown : s.vm.findClass RX6 = some m.cls := hown
  have hl : lv_has ls 2 [(0, .ref xo), (1, .int i)] := hl
  refine lv_iload_n hx hb dX6_count_0 rfl (lv_at hl 1 rfl) ?_
  refine tsS (As := [.int i]) (rest := []) (mc := 3) (ms := 18) ⟨hx, hb, hml, hown, hts⟩ (c_X6_needLetter l D z q i hlt) (va_cwS 1 hts gX6_count_X6_needLetter rfl rfl rfl hd_X6_needLetter ⟨Nat.le_of_ble_eq_true rfl, Nat.le_of_ble_eq_true rfl⟩) hE hS hA hP hH0 hout hlocks rfl hl.1 rfl (Nat.le_of_ble_eq_true rfl) dX6_count_1 ⟨(Nat.le_of_ble_eq_true rfl), (Nat.le_of_ble_eq_true rfl)⟩ (fun E h => ⟨h.1, h.2⟩) (Nat.le_of_ble_eq_true rfl) (Nat.le_of_ble_eq_true rfl) (fun c_1 => ?_)
  refine W.widen (k := 1) (n := 6) (Nat.le_refl _) (Nat.le_refl _) ?_
  refine lv_aload_n hx hb dX6_count_4 rfl (lv_at hl 0 rfl) ?_
  refine va_get (D := D) (ci := 6) (v := .ref xg) (C := RX6) (T := TX6) (N := 8) hx hb hts in_X6_count_X6 hown hK hP 0 rfl rfl 1 (by decide) (hts (.fieldLink RX6 19 "TypingCoach" "figures" "LTypingCoach$Figures;") (List.mem_of_getElem? (i := 1) rfl)) (fun _ h9 => h9) rfl dX6_count_5 ?_
  refine va_getN (D := D) (ci := 2) (v := .ref g1) (C := RX2) (T := TX2) (N := 6) hx hb hts in_X6_count_X2 hown hK hP 1 rfl rfl 0 (by decide) (va_Nw.use rfl (hE.2.1.1 (172, "TypingCoach$Figures", "counts", "LTypingCoach$Cells;") (List.mem_of_getElem? (i := 3) rfl))) (fun _ h9 => h9) rfl dX6_count_8 ?_
  refine lv_iload_n hx hb dX6_count_11 rfl (lv_at hl 1 rfl) ?_
  refine rdV (As := [.int i]) (rest := []) ⟨hx, hb, hml, hown, hts⟩ (c_X1_at l D z q g1 y1 26 ct i (Nat.le_of_ble_eq_true rfl)) (cwV 1 hts gX6_count_X1_at rfl rfl rfl hd_X1_at ⟨Nat.le_of_ble_eq_true rfl, Nat.le_of_ble_eq_true rfl⟩) hE hS hA hP [2, 3] rfl rfl rfl rfl rfl hl.1 rfl (Nat.le_of_ble_eq_true rfl) dX6_count_12 ⟨(Nat.le_of_ble_eq_true rfl), (Nat.le_of_ble_eq_true rfl)⟩ ?_
  exact tx_i hx hb hr hlocks hP hD hS dX6_count_15 (c_1) (rfl) (rfl) (Nat.le_of_ble_eq_true rfl) (Nat.le_of_ble_eq_true rfl)
set_option maxRecDepth 20000 in
theorem in_X6_time_X6 : ∀ w ∈ wsX60, w ∈ wsX6_time := mem_r _ [17, 18, 19, 20, 21, 22, 23, 24] (by decide +kernel)
set_option maxRecDepth 20000 in
theorem in_X6_time_X2 : ∀ w ∈ wsX20, w ∈ wsX6_time := mem_r _ [25, 26, 27, 28, 29, 30] (by decide +kernel)
theorem hd_X6_time : yX6_time.cls = RX6 ∧ yX6_time.cls ≠ "java/lang/invoke/MethodHandle" ∧ yX6_time.cls ≠ "java/lang/invoke/VarHandle" ∧ (parseMethodDescriptor yX6_time.desc).map (fun d => d.parameters.length) = some 1 := by decide +kernel
set_option maxHeartbeats 4000000 in
set_option maxRecDepth 100000 in
theorem c_X6_time (l : Launch) (D : va_G) (z : Nat → ClassId) (q : Nat → Nat) (xo : Nat) (xb : Nat) (xg : Nat) (xn : Nat) (xt : Nat) (xp : Nat) (xk : Nat) (xf : Nat) (dy : Int32) (g1 : Nat) (y1 : Nat) (g2 : Nat) (y2 : Nat) (g3 : Nat) (y3 : Nat) (g4 : Nat) (y4 : Nat) (ct : Nat → Int32) (ti : Nat → Int32) (sh : Nat → Int32) (pr : Nat → Int32) (wt : Int32) (wh : Int32) (i : Int32) (sz : Nat) (hlt : l.stackTraces = false) : TX l yX6_time wsX6_time ({ frames := 7, cells := 3, slots := 18, locals := 140 } : Room) D z q [.ref xo, .int i] [(xo, .inr (6, [.ref xb, .ref xg, .ref xn, .ref xt, .ref xp, .ref xk, .ref xf, .int dy])), (xg, .inr (2, [.ref g1, .ref g2, .ref g3, .ref g4, .int wt, .int wh])), (g1, .inr (1, [.ref y1])), (y1, .inl (z 0, 26, .inl ct)), (g2, .inr (1, [.ref y2])), (y2, .inl (z 0, 26, .inl ti)), (g3, .inr (1, [.ref y3])), (y3, .inl (z 0, 26, .inl sh)), (g4, .inr (1, [.ref y4])), (y4, .inl (z 0, 676, .inl pr))] sz [(xo, .inr (6, [.ref xb, .ref xg, .ref xn, .ref xt, .ref xp, .ref xk, .ref xf, .int dy])), (xg, .inr (2, [.ref g1, .ref g2, .ref g3, .ref g4, .int wt, .int wh])), (g1, .inr (1, [.ref y1])), (y1, .inl (z 0, 26, .inl ct)), (g2, .inr (1, [.ref y2])), (y2, .inl (z 0, 26, .inl ti)), (g3, .inr (1, [.ref y3])), (y3, .inl (z 0, 26, .inl sh)), (g4, .inr (1, [.ref y4])), (y4, .inl (z 0, 676, .inl pr))] (some (.int (cAt 26 ti i))) (¬ bW i 0 25 = 0) (fun E => (bW i 0 25 = 0 ∧ E = xI)) := by
  refine TX_mk (Qc := fun A a st o t => (¬ bW i 0 25 = 0) ∧ QW D [(xo, .inr (6, [.ref xb, .ref xg, .ref xn, .ref xt, .ref xp, .ref xk, .ref xf, .int dy])), (xg, .inr (2, [.ref g1, .ref g2, .ref g3, .ref g4, .int wt, .int wh])), (g1, .inr (1, [.ref y1])), (y1, .inl (z 0, 26, .inl ct)), (g2, .inr (1, [.ref y2])), (y2, .inl (z 0, 26, .inl ti)), (g3, .inr (1, [.ref y3])), (y3, .inl (z 0, 26, .inl sh)), (g4, .inr (1, [.ref y4])), (y4, .inl (z 0, 676, .inl pr))] A (some (.int (cAt 26 ti i))) a st o t) (XC := XK (fun E => (bW i 0 25 = 0 ∧ E = xI))) (mc := 3) (ms := 18) (cc := cX6_time) (maxL := 2) (ret := (some .int)) (by decide) rfl (Nat.le_of_ble_eq_true rfl) ?_
  intro p e s m below meth c A hx hb hr hml hts hown hlocks hout H hH0 hP hD hE hS hA ls hl
  have hK := hE.1
  have hown : s.vm.findClass RX6 = some m.cls := hown
  have hl : lv_has ls 2 [(0, .ref xo), (1, .int i)] := hl
  refine lv_iload_n hx hb dX6_time_0 rfl (lv_at hl 1 rfl) ?_
  refine tsS (As := [.int i]) (rest := []) (mc := 3) (ms := 18) ⟨hx, hb, hml, hown, hts⟩ (c_X6_needLetter l D z q i hlt) (va_cwS 1 hts gX6_time_X6_needLetter rfl rfl rfl hd_X6_needLetter ⟨Nat.le_of_ble_eq_true rfl, Nat.le_of_ble_eq_true rfl⟩) hE hS hA hP hH0 hout hlocks rfl hl.1 rfl (Nat.le_of_ble_eq_true rfl) dX6_time_1 ⟨(Nat.le_of_ble_eq_true rfl), (Nat.le_of_ble_eq_true rfl)⟩ (fun E h => ⟨h.1, h.2⟩) (Nat.le_of_ble_eq_true rfl) (Nat.le_of_ble_eq_true rfl) (fun c_1 => ?_)
  refine W.widen (k := 1) (n := 6) (Nat.le_refl _) (Nat.le_refl _) ?_
  refine lv_aload_n hx hb dX6_time_4 rfl (lv_at hl 0 rfl) ?_
  refine va_get (D := D) (ci := 6) (v := .ref xg) (C := RX6) (T := TX6) (N := 8) hx hb hts in_X6_time_X6 hown hK hP 0 rfl rfl 1 (by decide) (hts (.fieldLink RX6 19 "TypingCoach" "figures" "LTypingCoach$Figures;") (List.mem_of_getElem? (i := 1) rfl)) (fun _ h9 => h9) rfl dX6_time_5 ?_
  refine va_getN (D := D) (ci := 2) (v := .ref g2) (C := RX2) (T := TX2) (N := 6) hx hb hts in_X6_time_X2 hown hK hP 1 rfl rfl 1 (by decide) (va_Nw.use rfl (hE.2.1.1 (178, "TypingCoach$Figures", "times", "LTypingCoach$Cells;") (List.mem_of_getElem? (i := 4) rfl))) (fun _ h9 => h9) rfl dX6_time_8 ?_
  refine lv_iload_n hx hb dX6_time_11 rfl (lv_at hl 1 rfl) ?_
  refine rdV (As := [.int i]) (rest := []) ⟨hx, hb, hml, hown, hts⟩ (c_X1_at l D z q g2 y2 26 ti i (Nat.le_of_ble_eq_true rfl)) (cwV 1 hts gX6_time_X1_at rfl rfl rfl hd_X1_at ⟨Nat.le_of_ble_eq_true rfl, Nat.le_of_ble_eq_true rfl⟩) hE hS hA hP [4, 5] rfl rfl rfl rfl rfl hl.1 rfl (Nat.le_of_ble_eq_true rfl) dX6_time_12 ⟨(Nat.le_of_ble_eq_true rfl), (Nat.le_of_ble_eq_true rfl)⟩ ?_
  exact tx_i hx hb hr hlocks hP hD hS dX6_time_15 (c_1) (rfl) (rfl) (Nat.le_of_ble_eq_true rfl) (Nat.le_of_ble_eq_true rfl)
set_option maxRecDepth 20000 in
theorem in_X6_share_X6 : ∀ w ∈ wsX60, w ∈ wsX6_share := mem_r _ [17, 18, 19, 20, 21, 22, 23, 24] (by decide +kernel)
set_option maxRecDepth 20000 in
theorem in_X6_share_X2 : ∀ w ∈ wsX20, w ∈ wsX6_share := mem_r _ [25, 26, 27, 28, 29, 30] (by decide +kernel)
theorem hd_X6_share : yX6_share.cls = RX6 ∧ yX6_share.cls ≠ "java/lang/invoke/MethodHandle" ∧ yX6_share.cls ≠ "java/lang/invoke/VarHandle" ∧ (parseMethodDescriptor yX6_share.desc).map (fun d => d.parameters.length) = some 1 := by decide +kernel
set_option maxHeartbeats 4000000 in
set_option maxRecDepth 100000 in
theorem c_X6_share (l : Launch) (D : va_G) (z : Nat → ClassId) (q : Nat → Nat) (xo : Nat) (xb : Nat) (xg : Nat) (xn : Nat) (xt : Nat) (xp : Nat) (xk : Nat) (xf : Nat) (dy : Int32) (g1 : Nat) (y1 : Nat) (g2 : Nat) (y2 : Nat) (g3 : Nat) (y3 : Nat) (g4 : Nat) (y4 : Nat) (ct : Nat → Int32) (ti : Nat → Int32) (sh : Nat → Int32) (pr : Nat → Int32) (wt : Int32) (wh : Int32) (i : Int32) (sz : Nat) (hlt : l.stackTraces = false) : TX l yX6_share wsX6_share ({ frames := 7, cells := 3, slots := 18, locals := 140 } : Room) D z q [.ref xo, .int i] [(xo, .inr (6, [.ref xb, .ref xg, .ref xn, .ref xt, .ref xp, .ref xk, .ref xf, .int dy])), (xg, .inr (2, [.ref g1, .ref g2, .ref g3, .ref g4, .int wt, .int wh])), (g1, .inr (1, [.ref y1])), (y1, .inl (z 0, 26, .inl ct)), (g2, .inr (1, [.ref y2])), (y2, .inl (z 0, 26, .inl ti)), (g3, .inr (1, [.ref y3])), (y3, .inl (z 0, 26, .inl sh)), (g4, .inr (1, [.ref y4])), (y4, .inl (z 0, 676, .inl pr))] sz [(xo, .inr (6, [.ref xb, .ref xg, .ref xn, .ref xt, .ref xp, .ref xk, .ref xf, .int dy])), (xg, .inr (2, [.ref g1, .ref g2, .ref g3, .ref g4, .int wt, .int wh])), (g1, .inr (1, [.ref y1])), (y1, .inl (z 0, 26, .inl ct)), (g2, .inr (1, [.ref y2])), (y2, .inl (z 0, 26, .inl ti)), (g3, .inr (1, [.ref y3])), (y3, .inl (z 0, 26, .inl sh)), (g4, .inr (1, [.ref y4])), (y4, .inl (z 0, 676, .inl pr))] (some (.int (cAt 26 sh i))) (¬ bW i 0 25 = 0) (fun E => (bW i 0 25 = 0 ∧ E = xI)) := by
  refine TX_mk (Qc := fun A a st o t => (¬ bW i 0 25 = 0) ∧ QW D [(xo, .inr (6, [.ref xb, .ref xg, .ref xn, .ref xt, .ref xp, .ref xk, .ref xf, .int dy])), (xg, .inr (2, [.ref g1, .ref g2, .ref g3, .ref g4, .int wt, .int wh])), (g1, .inr (1, [.ref y1])), (y1, .inl (z 0, 26, .inl ct)), (g2, .inr (1, [.ref y2])), (y2, .inl (z 0, 26, .inl ti)), (g3, .inr (1, [.ref y3])), (y3, .inl (z 0, 26, .inl sh)), (g4, .inr (1, [.ref y4])), (y4, .inl (z 0, 676, .inl pr))] A (some (.int (cAt 26 sh i))) a st o t) (XC := XK (fun E => (bW i 0 25 = 0 ∧ E = xI))) (mc := 3) (ms := 18) (cc := cX6_share) (maxL := 2) (ret := (some .int)) (by decide) rfl (Nat.le_of_ble_eq_true rfl) ?_
  intro p e s m below meth c A hx hb hr hml hts hown hlocks hout H hH0 hP hD hE hS hA ls hl
  have hK := hE.1
  have hown : s.vm.findClass RX6 = some m.cls := hown
  have hl : lv_has ls 2 [(0, .ref xo), (1, .int i)] := hl
  refine lv_iload_n hx hb dX6_share_0 rfl (lv_at hl 1 rfl) ?_
  refine tsS (As := [.int i]) (rest := []) (mc := 3) (ms := 18) ⟨hx, hb, hml, hown, hts⟩ (c_X6_needLetter l D z q i hlt) (va_cwS 1 hts gX6_share_X6_needLetter rfl rfl rfl hd_X6_needLetter ⟨Nat.le_of_ble_eq_true rfl, Nat.le_of_ble_eq_true rfl⟩) hE hS hA hP hH0 hout hlocks rfl hl.1 rfl (Nat.le_of_ble_eq_true rfl) dX6_share_1 ⟨(Nat.le_of_ble_eq_true rfl), (Nat.le_of_ble_eq_true rfl)⟩ (fun E h => ⟨h.1, h.2⟩) (Nat.le_of_ble_eq_true rfl) (Nat.le_of_ble_eq_true rfl) (fun c_1 => ?_)
  refine W.widen (k := 1) (n := 6) (Nat.le_refl _) (Nat.le_refl _) ?_
  refine lv_aload_n hx hb dX6_share_4 rfl (lv_at hl 0 rfl) ?_
  refine va_get (D := D) (ci := 6) (v := .ref xg) (C := RX6) (T := TX6) (N := 8) hx hb hts in_X6_share_X6 hown hK hP 0 rfl rfl 1 (by decide) (hts (.fieldLink RX6 19 "TypingCoach" "figures" "LTypingCoach$Figures;") (List.mem_of_getElem? (i := 1) rfl)) (fun _ h9 => h9) rfl dX6_share_5 ?_
  refine va_getN (D := D) (ci := 2) (v := .ref g3) (C := RX2) (T := TX2) (N := 6) hx hb hts in_X6_share_X2 hown hK hP 1 rfl rfl 2 (by decide) (va_Nw.use rfl (hE.2.1.1 (181, "TypingCoach$Figures", "shares", "LTypingCoach$Cells;") (List.mem_of_getElem? (i := 5) rfl))) (fun _ h9 => h9) rfl dX6_share_8 ?_
  refine lv_iload_n hx hb dX6_share_11 rfl (lv_at hl 1 rfl) ?_
  refine rdV (As := [.int i]) (rest := []) ⟨hx, hb, hml, hown, hts⟩ (c_X1_at l D z q g3 y3 26 sh i (Nat.le_of_ble_eq_true rfl)) (cwV 1 hts gX6_share_X1_at rfl rfl rfl hd_X1_at ⟨Nat.le_of_ble_eq_true rfl, Nat.le_of_ble_eq_true rfl⟩) hE hS hA hP [6, 7] rfl rfl rfl rfl rfl hl.1 rfl (Nat.le_of_ble_eq_true rfl) dX6_share_12 ⟨(Nat.le_of_ble_eq_true rfl), (Nat.le_of_ble_eq_true rfl)⟩ ?_
  exact tx_i hx hb hr hlocks hP hD hS dX6_share_15 (c_1) (rfl) (rfl) (Nat.le_of_ble_eq_true rfl) (Nat.le_of_ble_eq_true rfl)
set_option maxRecDepth 20000 in
theorem in_X6_pairTime_X6 : ∀ w ∈ wsX60, w ∈ wsX6_pairTime := mem_r _ [26, 27, 28, 29, 30, 31, 32, 33] (by decide +kernel)
theorem hd_X6_pairTime : yX6_pairTime.cls = RX6 ∧ yX6_pairTime.cls ≠ "java/lang/invoke/MethodHandle" ∧ yX6_pairTime.cls ≠ "java/lang/invoke/VarHandle" ∧ (parseMethodDescriptor yX6_pairTime.desc).map (fun d => d.parameters.length) = some 2 := by decide +kernel
set_option maxHeartbeats 4000000 in
set_option maxRecDepth 100000 in
theorem c_X6_pairTime (l : Launch) (D : va_G) (z : Nat → ClassId) (q : Nat → Nat) (xo : Nat) (xb : Nat) (xg : Nat) (xn : Nat) (xt : Nat) (xp : Nat) (xk : Nat) (xf : Nat) (dy : Int32) (g1 : Nat) (y1 : Nat) (g2 : Nat) (y2 : Nat) (g3 : Nat) (y3 : Nat) (g4 : Nat) (y4 : Nat) (ct : Nat → Int32) (ti : Nat → Int32) (sh : Nat → Int32) (pr : Nat → Int32) (wt : Int32) (wh : Int32) (i : Int32) (j : Int32) (sz : Nat) (hlt : l.stackTraces = false) : TX l yX6_pairTime wsX6_pairTime ({ frames := 7, cells := 3, slots := 18, locals := 140 } : Room) D z q [.ref xo, .int i, .int j] [(xo, .inr (6, [.ref xb, .ref xg, .ref xn, .ref xt, .ref xp, .ref xk, .ref xf, .int dy])), (xg, .inr (2, [.ref g1, .ref g2, .ref g3, .ref g4, .int wt, .int wh])), (g1, .inr (1, [.ref y1])), (y1, .inl (z 0, 26, .inl ct)), (g2, .inr (1, [.ref y2])), (y2, .inl (z 0, 26, .inl ti)), (g3, .inr (1, [.ref y3])), (y3, .inl (z 0, 26, .inl sh)), (g4, .inr (1, [.ref y4])), (y4, .inl (z 0, 676, .inl pr))] sz [(xo, .inr (6, [.ref xb, .ref xg, .ref xn, .ref xt, .ref xp, .ref xk, .ref xf, .int dy])), (xg, .inr (2, [.ref g1, .ref g2, .ref g3, .ref g4, .int wt, .int wh])), (g1, .inr (1, [.ref y1])), (y1, .inl (z 0, 26, .inl ct)), (g2, .inr (1, [.ref y2])), (y2, .inl (z 0, 26, .inl ti)), (g3, .inr (1, [.ref y3])), (y3, .inl (z 0, 26, .inl sh)), (g4, .inr (1, [.ref y4])), (y4, .inl (z 0, 676, .inl pr))] (some (.int (cAt 676 pr (fPair i j)))) (¬ bW i 0 25 = 0 ∧ ¬ bW j 0 25 = 0) (fun E => (bW i 0 25 = 0 ∧ E = xI) ∨ (¬ bW i 0 25 = 0 ∧ bW j 0 25 = 0 ∧ E = xI)) := by
  refine TX_mk (Qc := fun A a st o t => (¬ bW i 0 25 = 0 ∧ ¬ bW j 0 25 = 0) ∧ QW D [(xo, .inr (6, [.ref xb, .ref xg, .ref xn, .ref xt, .ref xp, .ref xk, .ref xf, .int dy])), (xg, .inr (2, [.ref g1, .ref g2, .ref g3, .ref g4, .int wt, .int wh])), (g1, .inr (1, [.ref y1])), (y1, .inl (z 0, 26, .inl ct)), (g2, .inr (1, [.ref y2])), (y2, .inl (z 0, 26, .inl ti)), (g3, .inr (1, [.ref y3])), (y3, .inl (z 0, 26, .inl sh)), (g4, .inr (1, [.ref y4])), (y4, .inl (z 0, 676, .inl pr))] A (some (.int (cAt 676 pr (fPair i j)))) a st o t) (XC := XK (fun E => (bW i 0 25 = 0 ∧ E = xI) ∨ (¬ bW i 0 25 = 0 ∧ bW j 0 25 = 0 ∧ E = xI))) (mc := 3) (ms := 18) (cc := cX6_pairTime) (maxL := 3) (ret := (some .int)) (by decide) rfl (Nat.le_of_ble_eq_true rfl) ?_
  intro p e s m below meth c A hx hb hr hml hts hown hlocks hout H hH0 hP hD hE hS hA ls hl
  have hK := hE.1
  have hown : s.vm.findClass RX6 = some m.cls := hown
  have hl : lv_has ls 3 [(0, .ref xo), (1, .int i), (2, .int j)] := hl
  refine lv_iload_n hx hb dX6_pairTime_0 rfl (lv_at hl 1 rfl) ?_
  refine tsS (As := [.int i]) (rest := []) (mc := 3) (ms := 18) ⟨hx, hb, hml, hown, hts⟩ (c_X6_needLetter l D z q i hlt) (va_cwS 1 hts gX6_pairTime_X6_needLetter rfl rfl rfl hd_X6_needLetter ⟨Nat.le_of_ble_eq_true rfl, Nat.le_of_ble_eq_true rfl⟩) hE hS hA hP hH0 hout hlocks rfl hl.1 rfl (Nat.le_of_ble_eq_true rfl) dX6_pairTime_1 ⟨(Nat.le_of_ble_eq_true rfl), (Nat.le_of_ble_eq_true rfl)⟩ (fun E h => Or.inl ⟨h.1, h.2⟩) (Nat.le_of_ble_eq_true rfl) (Nat.le_of_ble_eq_true rfl) (fun c_1 => ?_)
  refine W.widen (k := 1) (n := 6) (Nat.le_refl _) (Nat.le_refl _) ?_
  refine lv_iload_n hx hb dX6_pairTime_4 rfl (lv_at hl 2 rfl) ?_
  refine tsS (As := [.int j]) (rest := []) (mc := 3) (ms := 18) ⟨hx, hb, hml, hown, hts⟩ (c_X6_needLetter l D z q j hlt) (va_cwS 1 hts gX6_pairTime_X6_needLetter rfl rfl rfl hd_X6_needLetter ⟨Nat.le_of_ble_eq_true rfl, Nat.le_of_ble_eq_true rfl⟩) hE hS hA hP hH0 hout hlocks rfl hl.1 rfl (Nat.le_of_ble_eq_true rfl) dX6_pairTime_5 ⟨(Nat.le_of_ble_eq_true rfl), (Nat.le_of_ble_eq_true rfl)⟩ (fun E h => Or.inr (⟨c_1, h.1, h.2⟩)) (Nat.le_of_ble_eq_true rfl) (Nat.le_of_ble_eq_true rfl) (fun c_2 => ?_)
  refine W.widen (k := 2) (n := 12) (Nat.le_refl _) (Nat.le_refl _) ?_
  refine lv_aload_n hx hb dX6_pairTime_8 rfl (lv_at hl 0 rfl) ?_
  refine va_get (D := D) (ci := 6) (v := .ref xg) (C := RX6) (T := TX6) (N := 8) hx hb hts in_X6_pairTime_X6 hown hK hP 0 rfl rfl 1 (by decide) (hts (.fieldLink RX6 19 "TypingCoach" "figures" "LTypingCoach$Figures;") (List.mem_of_getElem? (i := 1) rfl)) (fun _ h9 => h9) rfl dX6_pairTime_9 ?_
  refine lv_iload_n hx hb dX6_pairTime_12 rfl (lv_at hl 1 rfl) ?_
  refine lv_iload_n hx hb dX6_pairTime_13 rfl (lv_at hl 2 rfl) ?_
  refine rdV (As := [.int i, .int j]) (rest := []) ⟨hx, hb, hml, hown, hts⟩ (c_X2_timeOfPair l D z q xg g1 y1 g2 y2 g3 y3 g4 y4 ct ti sh pr wt wh i j) (cwV 2 hts gX6_pairTime_X2_timeOfPair rfl rfl rfl hd_X2_timeOfPair ⟨Nat.le_of_ble_eq_true rfl, Nat.le_of_ble_eq_true rfl⟩) hE hS hA hP [1, 2, 3, 4, 5, 6, 7, 8, 9] rfl rfl rfl rfl rfl hl.1 rfl (Nat.le_of_ble_eq_true rfl) dX6_pairTime_14 ⟨(Nat.le_of_ble_eq_true rfl), (Nat.le_of_ble_eq_true rfl)⟩ ?_
  exact tx_i hx hb hr hlocks hP hD hS dX6_pairTime_17 (⟨c_1, c_2⟩) (rfl) (rfl) (Nat.le_of_ble_eq_true rfl) (Nat.le_of_ble_eq_true rfl)
set_option maxRecDepth 20000 in
theorem in_X6_isGood_X6 : ∀ w ∈ wsX60, w ∈ wsX6_isGood := mem_r _ [27, 28, 29, 30, 31, 32, 33, 34] (by decide +kernel)
theorem hd_X6_isGood : yX6_isGood.cls = RX6 ∧ yX6_isGood.cls ≠ "java/lang/invoke/MethodHandle" ∧ yX6_isGood.cls ≠ "java/lang/invoke/VarHandle" ∧ (parseMethodDescriptor yX6_isGood.desc).map (fun d => d.parameters.length) = some 1 := by decide +kernel
set_option maxHeartbeats 4000000 in
set_option maxRecDepth 100000 in
theorem c_X6_isGood (l : Launch) (D : va_G) (z : Nat → ClassId) (q : Nat → Nat) (xo : Nat) (xb : Nat) (xg : Nat) (xn : Nat) (xt : Nat) (xp : Nat) (xk : Nat) (xf : Nat) (dy : Int32) (g1 : Nat) (y1 : Nat) (g2 : Nat) (y2 : Nat) (g3 : Nat) (y3 : Nat) (g4 : Nat) (y4 : Nat) (ct : Nat → Int32) (ti : Nat → Int32) (sh : Nat → Int32) (pr : Nat → Int32) (wt : Int32) (wh : Int32) (i : Int32) (sz : Nat) (hlt : l.stackTraces = false) : TX l yX6_isGood wsX6_isGood ({ frames := 7, cells := 3, slots := 18, locals := 140 } : Room) D z q [.ref xo, .int i] [(xo, .inr (6, [.ref xb, .ref xg, .ref xn, .ref xt, .ref xp, .ref xk, .ref xf, .int dy])), (xg, .inr (2, [.ref g1, .ref g2, .ref g3, .ref g4, .int wt, .int wh])), (g1, .inr (1, [.ref y1])), (y1, .inl (z 0, 26, .inl ct)), (g2, .inr (1, [.ref y2])), (y2, .inl (z 0, 26, .inl ti)), (g3, .inr (1, [.ref y3])), (y3, .inl (z 0, 26, .inl sh)), (g4, .inr (1, [.ref y4])), (y4, .inl (z 0, 676, .inl pr))] sz [(xo, .inr (6, [.ref xb, .ref xg, .ref xn, .ref xt, .ref xp, .ref xk, .ref xf, .int dy])), (xg, .inr (2, [.ref g1, .ref g2, .ref g3, .ref g4, .int wt, .int wh])), (g1, .inr (1, [.ref y1])), (y1, .inl (z 0, 26, .inl ct)), (g2, .inr (1, [.ref y2])), (y2, .inl (z 0, 26, .inl ti)), (g3, .inr (1, [.ref y3])), (y3, .inl (z 0, 26, .inl sh)), (g4, .inr (1, [.ref y4])), (y4, .inl (z 0, 676, .inl pr))] (some (.int (fGood ct ti sh wt wh i))) (¬ bW i 0 25 = 0) (fun E => (bW i 0 25 = 0 ∧ E = xI)) := by
  refine TX_mk (Qc := fun A a st o t => (¬ bW i 0 25 = 0) ∧ QW D [(xo, .inr (6, [.ref xb, .ref xg, .ref xn, .ref xt, .ref xp, .ref xk, .ref xf, .int dy])), (xg, .inr (2, [.ref g1, .ref g2, .ref g3, .ref g4, .int wt, .int wh])), (g1, .inr (1, [.ref y1])), (y1, .inl (z 0, 26, .inl ct)), (g2, .inr (1, [.ref y2])), (y2, .inl (z 0, 26, .inl ti)), (g3, .inr (1, [.ref y3])), (y3, .inl (z 0, 26, .inl sh)), (g4, .inr (1, [.ref y4])), (y4, .inl (z 0, 676, .inl pr))] A (some (.int (fGood ct ti sh wt wh i))) a st o t) (XC := XK (fun E => (bW i 0 25 = 0 ∧ E = xI))) (mc := 3) (ms := 18) (cc := cX6_isGood) (maxL := 2) (ret := (some .boolean)) (by decide) rfl (Nat.le_of_ble_eq_true rfl) ?_
  intro p e s m below meth c A hx hb hr hml hts hown hlocks hout H hH0 hP hD hE hS hA ls hl
  have hK := hE.1
  have hown : s.vm.findClass RX6 = some m.cls := hown
  have hl : lv_has ls 2 [(0, .ref xo), (1, .int i)] := hl
  refine lv_iload_n hx hb dX6_isGood_0 rfl (lv_at hl 1 rfl) ?_
  refine tsS (As := [.int i]) (rest := []) (mc := 3) (ms := 18) ⟨hx, hb, hml, hown, hts⟩ (c_X6_needLetter l D z q i hlt) (va_cwS 1 hts gX6_isGood_X6_needLetter rfl rfl rfl hd_X6_needLetter ⟨Nat.le_of_ble_eq_true rfl, Nat.le_of_ble_eq_true rfl⟩) hE hS hA hP hH0 hout hlocks rfl hl.1 rfl (Nat.le_of_ble_eq_true rfl) dX6_isGood_1 ⟨(Nat.le_of_ble_eq_true rfl), (Nat.le_of_ble_eq_true rfl)⟩ (fun E h => ⟨h.1, h.2⟩) (Nat.le_of_ble_eq_true rfl) (Nat.le_of_ble_eq_true rfl) (fun c_1 => ?_)
  refine W.widen (k := 1) (n := 6) (Nat.le_refl _) (Nat.le_refl _) ?_
  refine lv_aload_n hx hb dX6_isGood_4 rfl (lv_at hl 0 rfl) ?_
  refine va_get (D := D) (ci := 6) (v := .ref xg) (C := RX6) (T := TX6) (N := 8) hx hb hts in_X6_isGood_X6 hown hK hP 0 rfl rfl 1 (by decide) (hts (.fieldLink RX6 19 "TypingCoach" "figures" "LTypingCoach$Figures;") (List.mem_of_getElem? (i := 1) rfl)) (fun _ h9 => h9) rfl dX6_isGood_5 ?_
  refine lv_iload_n hx hb dX6_isGood_8 rfl (lv_at hl 1 rfl) ?_
  refine rdV (As := [.int i]) (rest := []) ⟨hx, hb, hml, hown, hts⟩ (c_X2_fulfilsWish l D z q xg g1 y1 g2 y2 g3 y3 g4 y4 ct ti sh pr wt wh i) (cwV 1 hts gX6_isGood_X2_fulfilsWish rfl rfl rfl hd_X2_fulfilsWish ⟨Nat.le_of_ble_eq_true rfl, Nat.le_of_ble_eq_true rfl⟩) hE hS hA hP [1, 2, 3, 4, 5, 6, 7, 8, 9] rfl rfl rfl rfl rfl hl.1 rfl (Nat.le_of_ble_eq_true rfl) dX6_isGood_9 ⟨(Nat.le_of_ble_eq_true rfl), (Nat.le_of_ble_eq_true rfl)⟩ ?_
  exact tx_z hx hb hr hlocks (fGood_n _ _ _ _ _ _) hP hD hS dX6_isGood_12 (c_1) (rfl) (rfl) (Nat.le_of_ble_eq_true rfl) (Nat.le_of_ble_eq_true rfl)
set_option maxRecDepth 20000 in
theorem in_X6_wish_X6 : ∀ w ∈ wsX60, w ∈ wsX6_wish := mem_r _ [8, 9, 10, 11, 12, 13, 14, 15] (by decide +kernel)
set_option maxRecDepth 20000 in
theorem in_X6_wish_X2 : ∀ w ∈ wsX20, w ∈ wsX6_wish := mem_r _ [16, 17, 18, 19, 20, 21] (by decide +kernel)
theorem hd_X6_wish : yX6_wish.cls = RX6 ∧ yX6_wish.cls ≠ "java/lang/invoke/MethodHandle" ∧ yX6_wish.cls ≠ "java/lang/invoke/VarHandle" ∧ (parseMethodDescriptor yX6_wish.desc).map (fun d => d.parameters.length) = some 2 := by decide +kernel
set_option maxHeartbeats 4000000 in
set_option maxRecDepth 100000 in
theorem c_X6_wish (l : Launch) (D : va_G) (z : Nat → ClassId) (q : Nat → Nat) (xo : Nat) (xb : Nat) (xg : Nat) (xn : Nat) (xt : Nat) (xp : Nat) (xk : Nat) (xf : Nat) (dy : Int32) (g1 : Nat) (y1 : Nat) (g2 : Nat) (y2 : Nat) (g3 : Nat) (y3 : Nat) (g4 : Nat) (y4 : Nat) (ct : Nat → Int32) (ti : Nat → Int32) (sh : Nat → Int32) (pr : Nat → Int32) (wt : Int32) (wh : Int32) (mo : Int32) (sa : Int32) (sz : Nat) (hlt : l.stackTraces = false) : TX l yX6_wish wsX6_wish ({ frames := 6, cells := 3, slots := 18, locals := 120 } : Room) D z q [.ref xo, .int mo, .int sa] [(xo, .inr (6, [.ref xb, .ref xg, .ref xn, .ref xt, .ref xp, .ref xk, .ref xf, .int dy])), (xg, .inr (2, [.ref g1, .ref g2, .ref g3, .ref g4, .int wt, .int wh])), (g1, .inr (1, [.ref y1])), (y1, .inl (z 0, 26, .inl ct)), (g2, .inr (1, [.ref y2])), (y2, .inl (z 0, 26, .inl ti)), (g3, .inr (1, [.ref y3])), (y3, .inl (z 0, 26, .inl sh)), (g4, .inr (1, [.ref y4])), (y4, .inl (z 0, 676, .inl pr))] sz [(xo, .inr (6, [.ref xb, .ref xg, .ref xn, .ref xt, .ref xp, .ref xk, .ref xf, .int dy])), (xg, .inr (2, [.ref g1, .ref g2, .ref g3, .ref g4, .int mo, .int sa])), (g1, .inr (1, [.ref y1])), (y1, .inl (z 0, 26, .inl ct)), (g2, .inr (1, [.ref y2])), (y2, .inl (z 0, 26, .inl ti)), (g3, .inr (1, [.ref y3])), (y3, .inl (z 0, 26, .inl sh)), (g4, .inr (1, [.ref y4])), (y4, .inl (z 0, 676, .inl pr))] none (¬ bW mo 1 5000 = 0 ∧ ¬ bW sa 0 10000 = 0) (fun E => (bW mo 1 5000 = 0 ∧ E = xA) ∨ (¬ bW mo 1 5000 = 0 ∧ bW sa 0 10000 = 0 ∧ E = xA)) := by
  refine TX_mk (Qc := fun A a st o t => (¬ bW mo 1 5000 = 0 ∧ ¬ bW sa 0 10000 = 0) ∧ QW D [(xo, .inr (6, [.ref xb, .ref xg, .ref xn, .ref xt, .ref xp, .ref xk, .ref xf, .int dy])), (xg, .inr (2, [.ref g1, .ref g2, .ref g3, .ref g4, .int mo, .int sa])), (g1, .inr (1, [.ref y1])), (y1, .inl (z 0, 26, .inl ct)), (g2, .inr (1, [.ref y2])), (y2, .inl (z 0, 26, .inl ti)), (g3, .inr (1, [.ref y3])), (y3, .inl (z 0, 26, .inl sh)), (g4, .inr (1, [.ref y4])), (y4, .inl (z 0, 676, .inl pr))] A none a st o t) (XC := XK (fun E => (bW mo 1 5000 = 0 ∧ E = xA) ∨ (¬ bW mo 1 5000 = 0 ∧ bW sa 0 10000 = 0 ∧ E = xA))) (mc := 3) (ms := 18) (cc := cX6_wish) (maxL := 3) (ret := none) (by decide) rfl (Nat.le_of_ble_eq_true rfl) ?_
  intro p e s m below meth c A hx hb hr hml hts hown hlocks hout H hH0 hP hD hE hS hA ls hl
  have hK := hE.1
  have hown : s.vm.findClass RX6 = some m.cls := hown
  have hl : lv_has ls 3 [(0, .ref xo), (1, .int mo), (2, .int sa)] := hl
  refine lv_iload_n hx hb dX6_wish_0 rfl (lv_at hl 1 rfl) ?_
  refine lv_iconst (v := 1) hx hb dX6_wish_1 (by decide) ?_
  refine lv_sipush (v := 5000) hx hb dX6_wish_2 (by decide) ?_
  refine rdS (As := [.int mo, .int 1, .int 5000]) (rest := []) ⟨hx, hb, hml, hown, hts⟩ (c_X6_isWithin l D z q mo 1 5000) (va_cwS 3 hts gX6_wish_X6_isWithin rfl rfl rfl hd_X6_isWithin ⟨Nat.le_of_ble_eq_true rfl, Nat.le_of_ble_eq_true rfl⟩) hE hS hA hP [] rfl rfl hl.1 rfl (Nat.le_of_ble_eq_true rfl) dX6_wish_5 ⟨(Nat.le_of_ble_eq_true rfl), (Nat.le_of_ble_eq_true rfl)⟩ ?_
  refine lv_if_eq (tgt := 22) hx hb dX6_wish_8 (by decide) (fun c_1 => ?_) (fun c_1 => ?_)
  · exact thr (is := 191) (text := "wish out of range") (cls := xA) hx hb hlt hown fitA xAm (hts (.classLink RX6 107 "java/lang/IllegalArgumentException") (List.mem_of_getElem? (i := 1) rfl)) (hts (.initialized "java/lang/IllegalArgumentException") (List.mem_of_getElem? (i := 2) rfl)) (List.mem_of_getElem? (i := 7) rfl) ng111 (fun w h => hts w (List.mem_cons_of_mem _ (List.mem_append_right _ h))) gd111 hE hS hH0 hml hl.1 dX6_wish_22 dX6_wish_25 dX6_wish_26 dX6_wish_28 dX6_wish_31 hout hlocks (Nat.le_of_ble_eq_true rfl) (Nat.le_of_ble_eq_true rfl) ⟨(Nat.le_of_ble_eq_true rfl), (Nat.le_of_ble_eq_true rfl)⟩ (Or.inl ⟨c_1, rfl⟩) (Nat.le_of_ble_eq_true rfl) (Nat.le_of_ble_eq_true rfl)
  · refine lv_iload_n hx hb dX6_wish_11 rfl (lv_at hl 2 rfl) ?_
    refine lv_iconst (v := 0) hx hb dX6_wish_12 (by decide) ?_
    refine lv_sipush (v := 10000) hx hb dX6_wish_13 (by decide) ?_
    refine rdS (As := [.int sa, .int 0, .int 10000]) (rest := []) ⟨hx, hb, hml, hown, hts⟩ (c_X6_isWithin l D z q sa 0 10000) (va_cwS 3 hts gX6_wish_X6_isWithin rfl rfl rfl hd_X6_isWithin ⟨Nat.le_of_ble_eq_true rfl, Nat.le_of_ble_eq_true rfl⟩) hE hS hA hP [] rfl rfl hl.1 rfl (Nat.le_of_ble_eq_true rfl) dX6_wish_16 ⟨(Nat.le_of_ble_eq_true rfl), (Nat.le_of_ble_eq_true rfl)⟩ ?_
    refine lv_if_ne (tgt := 32) hx hb dX6_wish_19 (by decide) (fun c_2 => ?_) (fun c_2 => ?_)
    · refine lv_aload_n hx hb dX6_wish_32 rfl (lv_at hl 0 rfl) ?_
      refine va_get (D := D) (ci := 6) (v := .ref xg) (C := RX6) (T := TX6) (N := 8) hx hb hts in_X6_wish_X6 hown hK hP 0 rfl rfl 1 (by decide) (hts (.fieldLink RX6 19 "TypingCoach" "figures" "LTypingCoach$Figures;") (List.mem_of_getElem? (i := 3) rfl)) (fun _ h9 => h9) rfl dX6_wish_33 ?_
      refine lv_iload_n hx hb dX6_wish_36 rfl (lv_at hl 1 rfl) ?_
      refine va_putN (D := D) (ci := 2) (v := .int mo) (ty := .int) (C := RX2) (T := TX2) (N := 6) hx hb hts in_X6_wish_X2 tyX2 tyX2_ok nmX2 hown hK hP hD hS 1 rfl rfl 4 (by decide) (va_Nw.use rfl (hE.2.1.1 (193, "TypingCoach$Figures", "wishedTime", "I") (List.mem_of_getElem? (i := 6) rfl))) (fun _ h9 => h9) rfl (by decide +kernel) rfl rfl (Nat.le_of_ble_eq_true rfl) dX6_wish_37 (fun H locs hP hD hS => ?_)
      have hP : va_P D vwCl [(xo, .inr (6, [.ref xb, .ref xg, .ref xn, .ref xt, .ref xp, .ref xk, .ref xf, .int dy])), (xg, .inr (2, [.ref g1, .ref g2, .ref g3, .ref g4, .int mo, .int wh])), (g1, .inr (1, [.ref y1])), (y1, .inl (z 0, 26, .inl ct)), (g2, .inr (1, [.ref y2])), (y2, .inl (z 0, 26, .inl ti)), (g3, .inr (1, [.ref y3])), (y3, .inl (z 0, 26, .inl sh)), (g4, .inr (1, [.ref y4])), (y4, .inl (z 0, 676, .inl pr))] H := hP
      have hD : va_D A [(xo, .inr (6, [.ref xb, .ref xg, .ref xn, .ref xt, .ref xp, .ref xk, .ref xf, .int dy])), (xg, .inr (2, [.ref g1, .ref g2, .ref g3, .ref g4, .int mo, .int wh])), (g1, .inr (1, [.ref y1])), (y1, .inl (z 0, 26, .inl ct)), (g2, .inr (1, [.ref y2])), (y2, .inl (z 0, 26, .inl ti)), (g3, .inr (1, [.ref y3])), (y3, .inl (z 0, 26, .inl sh)), (g4, .inr (1, [.ref y4])), (y4, .inl (z 0, 676, .inl pr))] := hD
      refine lv_aload_n hx hb dX6_wish_40 rfl (lv_at hl 0 rfl) ?_
      refine va_get (D := D) (ci := 6) (v := .ref xg) (C := RX6) (T := TX6) (N := 8) hx hb hts in_X6_wish_X6 hown hK hP 0 rfl rfl 1 (by decide) (hts (.fieldLink RX6 19 "TypingCoach" "figures" "LTypingCoach$Figures;") (List.mem_of_getElem? (i := 3) rfl)) (fun _ h9 => h9) rfl dX6_wish_41 ?_
      refine lv_iload_n hx hb dX6_wish_44 rfl (lv_at hl 2 rfl) ?_
      refine va_putN (D := D) (ci := 2) (v := .int sa) (ty := .int) (C := RX2) (T := TX2) (N := 6) hx hb hts in_X6_wish_X2 tyX2 tyX2_ok nmX2 hown hK hP hD hS 1 rfl rfl 5 (by decide) (va_Nw.use rfl (hE.2.1.1 (196, "TypingCoach$Figures", "wishedShare", "I") (List.mem_of_getElem? (i := 7) rfl))) (fun _ h9 => h9) rfl (by decide +kernel) rfl rfl (Nat.le_of_ble_eq_true rfl) dX6_wish_45 (fun H locs hP hD hS => ?_)
      have hP : va_P D vwCl [(xo, .inr (6, [.ref xb, .ref xg, .ref xn, .ref xt, .ref xp, .ref xk, .ref xf, .int dy])), (xg, .inr (2, [.ref g1, .ref g2, .ref g3, .ref g4, .int mo, .int sa])), (g1, .inr (1, [.ref y1])), (y1, .inl (z 0, 26, .inl ct)), (g2, .inr (1, [.ref y2])), (y2, .inl (z 0, 26, .inl ti)), (g3, .inr (1, [.ref y3])), (y3, .inl (z 0, 26, .inl sh)), (g4, .inr (1, [.ref y4])), (y4, .inl (z 0, 676, .inl pr))] H := hP
      have hD : va_D A [(xo, .inr (6, [.ref xb, .ref xg, .ref xn, .ref xt, .ref xp, .ref xk, .ref xf, .int dy])), (xg, .inr (2, [.ref g1, .ref g2, .ref g3, .ref g4, .int mo, .int sa])), (g1, .inr (1, [.ref y1])), (y1, .inl (z 0, 26, .inl ct)), (g2, .inr (1, [.ref y2])), (y2, .inl (z 0, 26, .inl ti)), (g3, .inr (1, [.ref y3])), (y3, .inl (z 0, 26, .inl sh)), (g4, .inr (1, [.ref y4])), (y4, .inl (z 0, 676, .inl pr))] := hD
      exact tx_v hx hb hr hlocks hP hD hS dX6_wish_48 (⟨c_1, c_2⟩) (rfl) (Nat.le_of_ble_eq_true rfl) (Nat.le_of_ble_eq_true rfl)
    · exact thr (is := 191) (text := "wish out of range") (cls := xA) hx hb hlt hown fitA xAm (hts (.classLink RX6 107 "java/lang/IllegalArgumentException") (List.mem_of_getElem? (i := 1) rfl)) (hts (.initialized "java/lang/IllegalArgumentException") (List.mem_of_getElem? (i := 2) rfl)) (List.mem_of_getElem? (i := 7) rfl) ng111 (fun w h => hts w (List.mem_cons_of_mem _ (List.mem_append_right _ h))) gd111 hE hS hH0 hml hl.1 dX6_wish_22 dX6_wish_25 dX6_wish_26 dX6_wish_28 dX6_wish_31 hout hlocks (Nat.le_of_ble_eq_true rfl) (Nat.le_of_ble_eq_true rfl) ⟨(Nat.le_of_ble_eq_true rfl), (Nat.le_of_ble_eq_true rfl)⟩ (Or.inr (⟨c_1, c_2, rfl⟩)) (Nat.le_of_ble_eq_true rfl) (Nat.le_of_ble_eq_true rfl)
set_option maxRecDepth 20000 in
theorem in_X6_endDay_X6 : ∀ w ∈ wsX60, w ∈ wsX6_endDay := mem_r _ [19, 20, 21, 22, 23, 24, 25, 26] (by decide +kernel)
theorem hd_X6_endDay : yX6_endDay.cls = RX6 ∧ yX6_endDay.cls ≠ "java/lang/invoke/MethodHandle" ∧ yX6_endDay.cls ≠ "java/lang/invoke/VarHandle" ∧ (parseMethodDescriptor yX6_endDay.desc).map (fun d => d.parameters.length) = some 0 := by decide +kernel
set_option maxHeartbeats 4000000 in
set_option maxRecDepth 100000 in
theorem c_X6_endDay (l : Launch) (D : va_G) (z : Nat → ClassId) (q : Nat → Nat) (xo : Nat) (xb : Nat) (xg : Nat) (xn : Nat) (xt : Nat) (xp : Nat) (xk : Nat) (xf : Nat) (dy : Int32) (g1 : Nat) (y1 : Nat) (g2 : Nat) (y2 : Nat) (g3 : Nat) (y3 : Nat) (g4 : Nat) (y4 : Nat) (ct : Nat → Int32) (ti : Nat → Int32) (sh : Nat → Int32) (pr : Nat → Int32) (wt : Int32) (wh : Int32) (sz : Nat)  : WR l yX6_endDay wsX6_endDay ({ frames := 2, cells := 0, slots := 0, locals := 43 } : Room) D z q [.ref xo] [(xo, .inr (6, [.ref xb, .ref xg, .ref xn, .ref xt, .ref xp, .ref xk, .ref xf, .int dy])), (xg, .inr (2, [.ref g1, .ref g2, .ref g3, .ref g4, .int wt, .int wh])), (g1, .inr (1, [.ref y1])), (y1, .inl (z 0, 26, .inl ct)), (g2, .inr (1, [.ref y2])), (y2, .inl (z 0, 26, .inl ti)), (g3, .inr (1, [.ref y3])), (y3, .inl (z 0, 26, .inl sh)), (g4, .inr (1, [.ref y4])), (y4, .inl (z 0, 676, .inl pr))] sz [(xo, .inr (6, [.ref xb, .ref xg, .ref xn, .ref xt, .ref xp, .ref xk, .ref xf, .int 0])), (xg, .inr (2, [.ref g1, .ref g2, .ref g3, .ref g4, .int wt, .int wh])), (g1, .inr (1, [.ref y1])), (y1, .inl (z 0, 26, .inl (fHalf ct 26))), (g2, .inr (1, [.ref y2])), (y2, .inl (z 0, 26, .inl ti)), (g3, .inr (1, [.ref y3])), (y3, .inl (z 0, 26, .inl sh)), (g4, .inr (1, [.ref y4])), (y4, .inl (z 0, 676, .inl pr))] (some (.int dy)) := by
  refine WR_mk (Qc := fun A => QW D [(xo, .inr (6, [.ref xb, .ref xg, .ref xn, .ref xt, .ref xp, .ref xk, .ref xf, .int 0])), (xg, .inr (2, [.ref g1, .ref g2, .ref g3, .ref g4, .int wt, .int wh])), (g1, .inr (1, [.ref y1])), (y1, .inl (z 0, 26, .inl (fHalf ct 26))), (g2, .inr (1, [.ref y2])), (y2, .inl (z 0, 26, .inl ti)), (g3, .inr (1, [.ref y3])), (y3, .inl (z 0, 26, .inl sh)), (g4, .inr (1, [.ref y4])), (y4, .inl (z 0, 676, .inl pr))] A (some (.int dy))) (cc := cX6_endDay) (maxL := 2) (ret := (some .int)) (by decide) rfl (Nat.le_of_ble_eq_true rfl) ?_
  intro p e s m below meth c A hx hb hr hml hts hown hlocks hin0 H hP hD hE hS hA ls hl
  have hK := hE.1
  have hown : s.vm.findClass RX6 = some m.cls := hown
  have hl : lv_has ls 2 [(0, .ref xo)] := hl
  refine lv_aload_n hx hb dX6_endDay_0 rfl (lv_at hl 0 rfl) ?_
  refine va_get (D := D) (ci := 6) (v := .int dy) (C := RX6) (T := TX6) (N := 8) hx hb hts in_X6_endDay_X6 hown hK hP 0 rfl rfl 7 (by decide) (hts (.fieldLink RX6 58 "TypingCoach" "strokesOfDay" "I") (List.mem_of_getElem? (i := 1) rfl)) (fun _ h9 => h9) rfl dX6_endDay_1 ?_
  refine lv_istore_n (lv' := [(1, .int dy), (0, .ref xo)]) hx hb dX6_endDay_4 rfl hl (by decide) rfl (fun ls hl => ?_)
  refine lv_aload_n hx hb dX6_endDay_5 rfl (lv_at hl 1 rfl) ?_
  refine va_get (D := D) (ci := 6) (v := .ref xg) (C := RX6) (T := TX6) (N := 8) hx hb hts in_X6_endDay_X6 hown hK hP 0 rfl rfl 1 (by decide) (hts (.fieldLink RX6 19 "TypingCoach" "figures" "LTypingCoach$Figures;") (List.mem_of_getElem? (i := 2) rfl)) (fun _ h9 => h9) rfl dX6_endDay_6 ?_
  refine wrVv (As := []) (rest := []) ⟨hx, hb, hml, hown, hts⟩ (c_X2_halveCounts l D z q xg g1 y1 g2 y2 g3 y3 g4 y4 ct ti sh pr wt wh H.size) (cwV 0 hts gX6_endDay_X2_halveCounts rfl rfl rfl hd_X2_halveCounts ⟨Nat.le_of_ble_eq_true rfl, Nat.le_of_ble_eq_true rfl⟩) hE hS hA hP hD [1, 2, 3, 4, 5, 6, 7, 8, 9] rfl rfl rfl rfl rfl rfl rfl hl.1 rfl (Nat.le_of_ble_eq_true rfl) dX6_endDay_9 ⟨(Nat.le_of_ble_eq_true rfl), (Nat.le_of_ble_eq_true rfl)⟩ (fun H locs hP hD hS => ?_)
  have hP : va_P D vwCl [(xo, .inr (6, [.ref xb, .ref xg, .ref xn, .ref xt, .ref xp, .ref xk, .ref xf, .int dy])), (xg, .inr (2, [.ref g1, .ref g2, .ref g3, .ref g4, .int wt, .int wh])), (g1, .inr (1, [.ref y1])), (y1, .inl (z 0, 26, .inl (fHalf ct 26))), (g2, .inr (1, [.ref y2])), (y2, .inl (z 0, 26, .inl ti)), (g3, .inr (1, [.ref y3])), (y3, .inl (z 0, 26, .inl sh)), (g4, .inr (1, [.ref y4])), (y4, .inl (z 0, 676, .inl pr))] H := hP
  have hD : va_D A [(xo, .inr (6, [.ref xb, .ref xg, .ref xn, .ref xt, .ref xp, .ref xk, .ref xf, .int dy])), (xg, .inr (2, [.ref g1, .ref g2, .ref g3, .ref g4, .int wt, .int wh])), (g1, .inr (1, [.ref y1])), (y1, .inl (z 0, 26, .inl (fHalf ct 26))), (g2, .inr (1, [.ref y2])), (y2, .inl (z 0, 26, .inl ti)), (g3, .inr (1, [.ref y3])), (y3, .inl (z 0, 26, .inl sh)), (g4, .inr (1, [.ref y4])), (y4, .inl (z 0, 676, .inl pr))] := hD
  refine lv_aload_n hx hb dX6_endDay_12 rfl (lv_at hl 1 rfl) ?_
  refine lv_iconst (v := 0) hx hb dX6_endDay_13 (by decide) ?_
  refine va_put (D := D) (ci := 6) (v := .int 0) (ty := .int) (C := RX6) (T := TX6) (N := 8) hx hb hts in_X6_endDay_X6 tyX6 tyX6_ok nmX6 hown hK hP hD hS 0 rfl rfl 7 (by decide) (hts (.fieldLink RX6 58 "TypingCoach" "strokesOfDay" "I") (List.mem_of_getElem? (i := 1) rfl)) (fun _ h9 => h9) rfl (by decide +kernel) rfl rfl (Nat.le_of_ble_eq_true rfl) dX6_endDay_14 (fun H locs hP hD hS => ?_)
  have hP : va_P D vwCl [(xo, .inr (6, [.ref xb, .ref xg, .ref xn, .ref xt, .ref xp, .ref xk, .ref xf, .int 0])), (xg, .inr (2, [.ref g1, .ref g2, .ref g3, .ref g4, .int wt, .int wh])), (g1, .inr (1, [.ref y1])), (y1, .inl (z 0, 26, .inl (fHalf ct 26))), (g2, .inr (1, [.ref y2])), (y2, .inl (z 0, 26, .inl ti)), (g3, .inr (1, [.ref y3])), (y3, .inl (z 0, 26, .inl sh)), (g4, .inr (1, [.ref y4])), (y4, .inl (z 0, 676, .inl pr))] H := hP
  have hD : va_D A [(xo, .inr (6, [.ref xb, .ref xg, .ref xn, .ref xt, .ref xp, .ref xk, .ref xf, .int 0])), (xg, .inr (2, [.ref g1, .ref g2, .ref g3, .ref g4, .int wt, .int wh])), (g1, .inr (1, [.ref y1])), (y1, .inl (z 0, 26, .inl (fHalf ct 26))), (g2, .inr (1, [.ref y2])), (y2, .inl (z 0, 26, .inl ti)), (g3, .inr (1, [.ref y3])), (y3, .inl (z 0, 26, .inl sh)), (g4, .inr (1, [.ref y4])), (y4, .inl (z 0, 676, .inl pr))] := hD
  refine lv_iload_n hx hb dX6_endDay_17 rfl (lv_at hl 0 rfl) ?_
  exact wr_i hx hb hr hlocks hP hD hS dX6_endDay_18 (rfl) (rfl) (Nat.le_refl _) (Nat.le_refl _)
set_option maxRecDepth 20000 in
theorem in_X6_strokes_X6 : ∀ w ∈ wsX60, w ∈ wsX6_strokes := mem_r _ [2, 3, 4, 5, 6, 7, 8, 9] (by decide +kernel)
theorem hd_X6_strokes : yX6_strokes.cls = RX6 ∧ yX6_strokes.cls ≠ "java/lang/invoke/MethodHandle" ∧ yX6_strokes.cls ≠ "java/lang/invoke/VarHandle" ∧ (parseMethodDescriptor yX6_strokes.desc).map (fun d => d.parameters.length) = some 0 := by decide +kernel
set_option maxHeartbeats 4000000 in
set_option maxRecDepth 100000 in
theorem c_X6_strokes (l : Launch) (D : va_G) (z : Nat → ClassId) (q : Nat → Nat) (xo : Nat) (xb : Nat) (xg : Nat) (xn : Nat) (xt : Nat) (xp : Nat) (xk : Nat) (xf : Nat) (dy : Int32)  : RD l yX6_strokes wsX6_strokes ({ frames := 0, cells := 0, slots := 0, locals := 0 } : Room) D z q [.ref xo] [(xo, .inr (6, [.ref xb, .ref xg, .ref xn, .ref xt, .ref xp, .ref xk, .ref xf, .int dy]))] (some (.int dy)) := by
  refine RD_mk (cc := cX6_strokes) (maxL := 1) (ret := (some .int)) (by decide) rfl (Nat.le_of_ble_eq_true rfl) ?_
  intro p e s m below meth c hx hb hr hml hts hown hlocks hP hE hS hA ls hl
  have hK := hE.1
  have hown : s.vm.findClass RX6 = some m.cls := hown
  have hl : lv_has ls 1 [(0, .ref xo)] := hl
  refine lv_aload_n hx hb dX6_strokes_0 rfl (lv_at hl 0 rfl) ?_
  refine va_get (D := D) (ci := 6) (v := .int dy) (C := RX6) (T := TX6) (N := 8) hx hb hts in_X6_strokes_X6 hown hK hP 0 rfl rfl 7 (by decide) (hts (.fieldLink RX6 58 "TypingCoach" "strokesOfDay" "I") (List.mem_of_getElem? (i := 1) rfl)) (fun _ h9 => h9) rfl dX6_strokes_1 ?_
  exact rd_i hx hb hr hlocks dX6_strokes_4 (rfl)
set_option maxRecDepth 20000 in
theorem in_X6_errors_X6 : ∀ w ∈ wsX60, w ∈ wsX6_errors := mem_r _ [14, 15, 16, 17, 18, 19, 20, 21] (by decide +kernel)
theorem hd_X6_errors : yX6_errors.cls = RX6 ∧ yX6_errors.cls ≠ "java/lang/invoke/MethodHandle" ∧ yX6_errors.cls ≠ "java/lang/invoke/VarHandle" ∧ (parseMethodDescriptor yX6_errors.desc).map (fun d => d.parameters.length) = some 1 := by decide +kernel
set_option maxHeartbeats 4000000 in
set_option maxRecDepth 100000 in
theorem c_X6_errors (l : Launch) (D : va_G) (z : Nat → ClassId) (q : Nat → Nat) (xo : Nat) (xb : Nat) (xg : Nat) (xn : Nat) (xt : Nat) (xp : Nat) (xk : Nat) (xf : Nat) (dy : Int32) (ka : Nat) (ek : Nat → Int32) (i : Int32) (sz : Nat) (hlt : l.stackTraces = false) : TX l yX6_errors wsX6_errors ({ frames := 6, cells := 3, slots := 18, locals := 120 } : Room) D z q [.ref xo, .int i] [(xo, .inr (6, [.ref xb, .ref xg, .ref xn, .ref xt, .ref xp, .ref xk, .ref xf, .int dy])), (xk, .inr (1, [.ref ka])), (ka, .inl (z 0, 5, .inl ek))] sz [(xo, .inr (6, [.ref xb, .ref xg, .ref xn, .ref xt, .ref xp, .ref xk, .ref xf, .int dy])), (xk, .inr (1, [.ref ka])), (ka, .inl (z 0, 5, .inl ek))] (some (.int (cAt 5 ek i))) (¬ bW i 0 4 = 0) (fun E => (bW i 0 4 = 0 ∧ E = xA)) := by
  refine TX_mk (Qc := fun A a st o t => (¬ bW i 0 4 = 0) ∧ QW D [(xo, .inr (6, [.ref xb, .ref xg, .ref xn, .ref xt, .ref xp, .ref xk, .ref xf, .int dy])), (xk, .inr (1, [.ref ka])), (ka, .inl (z 0, 5, .inl ek))] A (some (.int (cAt 5 ek i))) a st o t) (XC := XK (fun E => (bW i 0 4 = 0 ∧ E = xA))) (mc := 3) (ms := 18) (cc := cX6_errors) (maxL := 2) (ret := (some .int)) (by decide) rfl (Nat.le_of_ble_eq_true rfl) ?_
  intro p e s m below meth c A hx hb hr hml hts hown hlocks hout H hH0 hP hD hE hS hA ls hl
  have hK := hE.1
  have hown : s.vm.findClass RX6 = some m.cls := hown
  have hl : lv_has ls 2 [(0, .ref xo), (1, .int i)] := hl
  refine lv_iload_n hx hb dX6_errors_0 rfl (lv_at hl 1 rfl) ?_
  refine lv_iconst (v := 0) hx hb dX6_errors_1 (by decide) ?_
  refine lv_iconst (v := 4) hx hb dX6_errors_2 (by decide) ?_
  refine rdS (As := [.int i, .int 0, .int 4]) (rest := []) ⟨hx, hb, hml, hown, hts⟩ (c_X6_isWithin l D z q i 0 4) (va_cwS 3 hts gX6_errors_X6_isWithin rfl rfl rfl hd_X6_isWithin ⟨Nat.le_of_ble_eq_true rfl, Nat.le_of_ble_eq_true rfl⟩) hE hS hA hP [] rfl rfl hl.1 rfl (Nat.le_of_ble_eq_true rfl) dX6_errors_3 ⟨(Nat.le_of_ble_eq_true rfl), (Nat.le_of_ble_eq_true rfl)⟩ ?_
  refine lv_if_ne (tgt := 19) hx hb dX6_errors_6 (by decide) (fun c_1 => ?_) (fun c_1 => ?_)
  · refine lv_aload_n hx hb dX6_errors_19 rfl (lv_at hl 0 rfl) ?_
    refine va_get (D := D) (ci := 6) (v := .ref xk) (C := RX6) (T := TX6) (N := 8) hx hb hts in_X6_errors_X6 hown hK hP 0 rfl rfl 5 (by decide) (hts (.fieldLink RX6 51 "TypingCoach" "errorsOfKinds" "LTypingCoach$Cells;") (List.mem_of_getElem? (i := 3) rfl)) (fun _ h9 => h9) rfl dX6_errors_20 ?_
    refine lv_iload_n hx hb dX6_errors_23 rfl (lv_at hl 1 rfl) ?_
    refine rdV (As := [.int i]) (rest := []) ⟨hx, hb, hml, hown, hts⟩ (c_X1_at l D z q xk ka 5 ek i (Nat.le_of_ble_eq_true rfl)) (cwV 1 hts gX6_errors_X1_at rfl rfl rfl hd_X1_at ⟨Nat.le_of_ble_eq_true rfl, Nat.le_of_ble_eq_true rfl⟩) hE hS hA hP [1, 2] rfl rfl rfl rfl rfl hl.1 rfl (Nat.le_of_ble_eq_true rfl) dX6_errors_24 ⟨(Nat.le_of_ble_eq_true rfl), (Nat.le_of_ble_eq_true rfl)⟩ ?_
    exact tx_i hx hb hr hlocks hP hD hS dX6_errors_27 (c_1) (rfl) (rfl) (Nat.le_of_ble_eq_true rfl) (Nat.le_of_ble_eq_true rfl)
  · exact thr (is := 187) (text := "no such kind") (cls := xA) hx hb hlt hown fitA xAm (hts (.classLink RX6 107 "java/lang/IllegalArgumentException") (List.mem_of_getElem? (i := 1) rfl)) (hts (.initialized "java/lang/IllegalArgumentException") (List.mem_of_getElem? (i := 2) rfl)) (List.mem_of_getElem? (i := 5) rfl) ng111 (fun w h => hts w (List.mem_cons_of_mem _ (List.mem_append_right _ h))) gd111 hE hS hH0 hml hl.1 dX6_errors_9 dX6_errors_12 dX6_errors_13 dX6_errors_15 dX6_errors_18 hout hlocks (Nat.le_of_ble_eq_true rfl) (Nat.le_of_ble_eq_true rfl) ⟨(Nat.le_of_ble_eq_true rfl), (Nat.le_of_ble_eq_true rfl)⟩ (⟨c_1, rfl⟩) (Nat.le_of_ble_eq_true rfl) (Nat.le_of_ble_eq_true rfl)
set_option maxRecDepth 20000 in
theorem in_X6_errorsOf_X6 : ∀ w ∈ wsX60, w ∈ wsX6_errorsOf := mem_r _ [14, 15, 16, 17, 18, 19, 20, 21] (by decide +kernel)
theorem hd_X6_errorsOf : yX6_errorsOf.cls = RX6 ∧ yX6_errorsOf.cls ≠ "java/lang/invoke/MethodHandle" ∧ yX6_errorsOf.cls ≠ "java/lang/invoke/VarHandle" ∧ (parseMethodDescriptor yX6_errorsOf.desc).map (fun d => d.parameters.length) = some 1 := by decide +kernel
set_option maxHeartbeats 4000000 in
set_option maxRecDepth 100000 in
theorem c_X6_errorsOf (l : Launch) (D : va_G) (z : Nat → ClassId) (q : Nat → Nat) (xo : Nat) (xb : Nat) (xg : Nat) (xn : Nat) (xt : Nat) (xp : Nat) (xk : Nat) (xf : Nat) (dy : Int32) (fa : Nat) (ef : Nat → Int32) (i : Int32) (sz : Nat) (hlt : l.stackTraces = false) : TX l yX6_errorsOf wsX6_errorsOf ({ frames := 6, cells := 3, slots := 18, locals := 120 } : Room) D z q [.ref xo, .int i] [(xo, .inr (6, [.ref xb, .ref xg, .ref xn, .ref xt, .ref xp, .ref xk, .ref xf, .int dy])), (xf, .inr (1, [.ref fa])), (fa, .inl (z 0, 8, .inl ef))] sz [(xo, .inr (6, [.ref xb, .ref xg, .ref xn, .ref xt, .ref xp, .ref xk, .ref xf, .int dy])), (xf, .inr (1, [.ref fa])), (fa, .inl (z 0, 8, .inl ef))] (some (.int (cAt 8 ef i))) (¬ bW i 0 7 = 0) (fun E => (bW i 0 7 = 0 ∧ E = xA)) := by
  refine TX_mk (Qc := fun A a st o t => (¬ bW i 0 7 = 0) ∧ QW D [(xo, .inr (6, [.ref xb, .ref xg, .ref xn, .ref xt, .ref xp, .ref xk, .ref xf, .int dy])), (xf, .inr (1, [.ref fa])), (fa, .inl (z 0, 8, .inl ef))] A (some (.int (cAt 8 ef i))) a st o t) (XC := XK (fun E => (bW i 0 7 = 0 ∧ E = xA))) (mc := 3) (ms := 18) (cc := cX6_errorsOf) (maxL := 2) (ret := (some .int)) (by decide) rfl (Nat.le_of_ble_eq_true rfl) ?_
  intro p e s m below meth c A hx hb hr hml hts hown hlocks hout H hH0 hP hD hE hS hA ls hl
  have hK := hE.1
  have hown : s.vm.findClass RX6 = some m.cls := hown
  have hl : lv_has ls 2 [(0, .ref xo), (1, .int i)] := hl
  refine lv_iload_n hx hb dX6_errorsOf_0 rfl (lv_at hl 1 rfl) ?_
  refine lv_iconst (v := 0) hx hb dX6_errorsOf_1 (by decide) ?_
  refine lv_bipush (v := 7) hx hb dX6_errorsOf_2 (by decide) ?_
  refine rdS (As := [.int i, .int 0, .int 7]) (rest := []) ⟨hx, hb, hml, hown, hts⟩ (c_X6_isWithin l D z q i 0 7) (va_cwS 3 hts gX6_errorsOf_X6_isWithin rfl rfl rfl hd_X6_isWithin ⟨Nat.le_of_ble_eq_true rfl, Nat.le_of_ble_eq_true rfl⟩) hE hS hA hP [] rfl rfl hl.1 rfl (Nat.le_of_ble_eq_true rfl) dX6_errorsOf_4 ⟨(Nat.le_of_ble_eq_true rfl), (Nat.le_of_ble_eq_true rfl)⟩ ?_
  refine lv_if_ne (tgt := 20) hx hb dX6_errorsOf_7 (by decide) (fun c_1 => ?_) (fun c_1 => ?_)
  · refine lv_aload_n hx hb dX6_errorsOf_20 rfl (lv_at hl 0 rfl) ?_
    refine va_get (D := D) (ci := 6) (v := .ref xf) (C := RX6) (T := TX6) (N := 8) hx hb hts in_X6_errorsOf_X6 hown hK hP 0 rfl rfl 6 (by decide) (hts (.fieldLink RX6 55 "TypingCoach" "errorsOfFingers" "LTypingCoach$Cells;") (List.mem_of_getElem? (i := 3) rfl)) (fun _ h9 => h9) rfl dX6_errorsOf_21 ?_
    refine lv_iload_n hx hb dX6_errorsOf_24 rfl (lv_at hl 1 rfl) ?_
    refine rdV (As := [.int i]) (rest := []) ⟨hx, hb, hml, hown, hts⟩ (c_X1_at l D z q xf fa 8 ef i (Nat.le_of_ble_eq_true rfl)) (cwV 1 hts gX6_errorsOf_X1_at rfl rfl rfl hd_X1_at ⟨Nat.le_of_ble_eq_true rfl, Nat.le_of_ble_eq_true rfl⟩) hE hS hA hP [1, 2] rfl rfl rfl rfl rfl hl.1 rfl (Nat.le_of_ble_eq_true rfl) dX6_errorsOf_25 ⟨(Nat.le_of_ble_eq_true rfl), (Nat.le_of_ble_eq_true rfl)⟩ ?_
    exact tx_i hx hb hr hlocks hP hD hS dX6_errorsOf_28 (c_1) (rfl) (rfl) (Nat.le_of_ble_eq_true rfl) (Nat.le_of_ble_eq_true rfl)
  · exact thr (is := 189) (text := "finger out of range") (cls := xA) hx hb hlt hown fitA xAm (hts (.classLink RX6 107 "java/lang/IllegalArgumentException") (List.mem_of_getElem? (i := 1) rfl)) (hts (.initialized "java/lang/IllegalArgumentException") (List.mem_of_getElem? (i := 2) rfl)) (List.mem_of_getElem? (i := 6) rfl) ng111 (fun w h => hts w (List.mem_cons_of_mem _ (List.mem_append_right _ h))) gd111 hE hS hH0 hml hl.1 dX6_errorsOf_10 dX6_errorsOf_13 dX6_errorsOf_14 dX6_errorsOf_16 dX6_errorsOf_19 hout hlocks (Nat.le_of_ble_eq_true rfl) (Nat.le_of_ble_eq_true rfl) ⟨(Nat.le_of_ble_eq_true rfl), (Nat.le_of_ble_eq_true rfl)⟩ (⟨c_1, rfl⟩) (Nat.le_of_ble_eq_true rfl) (Nat.le_of_ble_eq_true rfl)
set_option maxRecDepth 20000 in
theorem in_X6_isIn_X6 : ∀ w ∈ wsX60, w ∈ wsX6_isIn := mem_r _ [17, 18, 19, 20, 21, 22, 23, 24] (by decide +kernel)
theorem hd_X6_isIn : yX6_isIn.cls = RX6 ∧ yX6_isIn.cls ≠ "java/lang/invoke/MethodHandle" ∧ yX6_isIn.cls ≠ "java/lang/invoke/VarHandle" ∧ (parseMethodDescriptor yX6_isIn.desc).map (fun d => d.parameters.length) = some 1 := by decide +kernel
set_option maxHeartbeats 4000000 in
set_option maxRecDepth 100000 in
theorem c_X6_isIn (l : Launch) (D : va_G) (z : Nat → ClassId) (q : Nat → Nat) (xo : Nat) (xb : Nat) (xg : Nat) (xn : Nat) (xt : Nat) (xp : Nat) (xk : Nat) (xf : Nat) (dy : Int32) (na : Nat) (ia : Nat → Int32) (i : Int32) (sz : Nat) (hlt : l.stackTraces = false) : TX l yX6_isIn wsX6_isIn ({ frames := 7, cells := 3, slots := 18, locals := 140 } : Room) D z q [.ref xo, .int i] [(xo, .inr (6, [.ref xb, .ref xg, .ref xn, .ref xt, .ref xp, .ref xk, .ref xf, .int dy])), (xn, .inr (4, [.ref na, .ref xg])), (na, .inl (z 1, 26, .inl ia))] sz [(xo, .inr (6, [.ref xb, .ref xg, .ref xn, .ref xt, .ref xp, .ref xk, .ref xf, .int dy])), (xn, .inr (4, [.ref na, .ref xg])), (na, .inl (z 1, 26, .inl ia))] (some (.int (lIn ia i))) (¬ bW i 0 25 = 0) (fun E => (bW i 0 25 = 0 ∧ E = xI)) := by
  refine TX_mk (Qc := fun A a st o t => (¬ bW i 0 25 = 0) ∧ QW D [(xo, .inr (6, [.ref xb, .ref xg, .ref xn, .ref xt, .ref xp, .ref xk, .ref xf, .int dy])), (xn, .inr (4, [.ref na, .ref xg])), (na, .inl (z 1, 26, .inl ia))] A (some (.int (lIn ia i))) a st o t) (XC := XK (fun E => (bW i 0 25 = 0 ∧ E = xI))) (mc := 3) (ms := 18) (cc := cX6_isIn) (maxL := 2) (ret := (some .boolean)) (by decide) rfl (Nat.le_of_ble_eq_true rfl) ?_
  intro p e s m below meth c A hx hb hr hml hts hown hlocks hout H hH0 hP hD hE hS hA ls hl
  have hK := hE.1
  have hown : s.vm.findClass RX6 = some m.cls := hown
  have hl : lv_has ls 2 [(0, .ref xo), (1, .int i)] := hl
  refine lv_iload_n hx hb dX6_isIn_0 rfl (lv_at hl 1 rfl) ?_
  refine tsS (As := [.int i]) (rest := []) (mc := 3) (ms := 18) ⟨hx, hb, hml, hown, hts⟩ (c_X6_needLetter l D z q i hlt) (va_cwS 1 hts gX6_isIn_X6_needLetter rfl rfl rfl hd_X6_needLetter ⟨Nat.le_of_ble_eq_true rfl, Nat.le_of_ble_eq_true rfl⟩) hE hS hA hP hH0 hout hlocks rfl hl.1 rfl (Nat.le_of_ble_eq_true rfl) dX6_isIn_1 ⟨(Nat.le_of_ble_eq_true rfl), (Nat.le_of_ble_eq_true rfl)⟩ (fun E h => ⟨h.1, h.2⟩) (Nat.le_of_ble_eq_true rfl) (Nat.le_of_ble_eq_true rfl) (fun c_1 => ?_)
  refine W.widen (k := 1) (n := 6) (Nat.le_refl _) (Nat.le_refl _) ?_
  refine lv_aload_n hx hb dX6_isIn_4 rfl (lv_at hl 0 rfl) ?_
  refine va_get (D := D) (ci := 6) (v := .ref xn) (C := RX6) (T := TX6) (N := 8) hx hb hts in_X6_isIn_X6 hown hK hP 0 rfl rfl 2 (by decide) (hts (.fieldLink RX6 28 "TypingCoach" "lettersIn" "LTypingCoach$LettersIn;") (List.mem_of_getElem? (i := 1) rfl)) (fun _ h9 => h9) rfl dX6_isIn_5 ?_
  refine lv_iload_n hx hb dX6_isIn_8 rfl (lv_at hl 1 rfl) ?_
  refine rdV (As := [.int i]) (rest := []) ⟨hx, hb, hml, hown, hts⟩ (c_X4_contains l D z q xn na xg ia i) (cwV 1 hts gX6_isIn_X4_contains rfl rfl rfl hd_X4_contains ⟨Nat.le_of_ble_eq_true rfl, Nat.le_of_ble_eq_true rfl⟩) hE hS hA hP [1, 2] rfl rfl rfl rfl rfl hl.1 rfl (Nat.le_of_ble_eq_true rfl) dX6_isIn_9 ⟨(Nat.le_of_ble_eq_true rfl), (Nat.le_of_ble_eq_true rfl)⟩ ?_
  exact tx_z hx hb hr hlocks (lIn_n _ _) hP hD hS dX6_isIn_12 (c_1) (rfl) (rfl) (Nat.le_of_ble_eq_true rfl) (Nat.le_of_ble_eq_true rfl)
set_option maxRecDepth 20000 in
theorem in_X6_weakest_X6 : ∀ w ∈ wsX60, w ∈ wsX6_weakest := mem_r _ [26, 27, 28, 29, 30, 31, 32, 33] (by decide +kernel)
theorem hd_X6_weakest : yX6_weakest.cls = RX6 ∧ yX6_weakest.cls ≠ "java/lang/invoke/MethodHandle" ∧ yX6_weakest.cls ≠ "java/lang/invoke/VarHandle" ∧ (parseMethodDescriptor yX6_weakest.desc).map (fun d => d.parameters.length) = some 0 := by decide +kernel
set_option maxHeartbeats 4000000 in
set_option maxRecDepth 100000 in
theorem c_X6_weakest (l : Launch) (D : va_G) (z : Nat → ClassId) (q : Nat → Nat) (xo : Nat) (xb : Nat) (xg : Nat) (xn : Nat) (xt : Nat) (xp : Nat) (xk : Nat) (xf : Nat) (dy : Int32) (na : Nat) (ia : Nat → Int32) (g1 : Nat) (y1 : Nat) (g2 : Nat) (y2 : Nat) (g3 : Nat) (y3 : Nat) (g4 : Nat) (y4 : Nat) (ct : Nat → Int32) (ti : Nat → Int32) (sh : Nat → Int32) (pr : Nat → Int32) (wt : Int32) (wh : Int32)  : RD l yX6_weakest wsX6_weakest ({ frames := 3, cells := 0, slots := 0, locals := 65 } : Room) D z q [.ref xo] [(xo, .inr (6, [.ref xb, .ref xg, .ref xn, .ref xt, .ref xp, .ref xk, .ref xf, .int dy])), (xn, .inr (4, [.ref na, .ref xg])), (na, .inl (z 1, 26, .inl ia)), (xg, .inr (2, [.ref g1, .ref g2, .ref g3, .ref g4, .int wt, .int wh])), (g1, .inr (1, [.ref y1])), (y1, .inl (z 0, 26, .inl ct)), (g2, .inr (1, [.ref y2])), (y2, .inl (z 0, 26, .inl ti)), (g3, .inr (1, [.ref y3])), (y3, .inl (z 0, 26, .inl sh)), (g4, .inr (1, [.ref y4])), (y4, .inl (z 0, 676, .inl pr))] (some (.int (lWk ia ti sh 25))) := by
  refine RD_mk (cc := cX6_weakest) (maxL := 1) (ret := (some .int)) (by decide) rfl (Nat.le_of_ble_eq_true rfl) ?_
  intro p e s m below meth c hx hb hr hml hts hown hlocks hP hE hS hA ls hl
  have hK := hE.1
  have hown : s.vm.findClass RX6 = some m.cls := hown
  have hl : lv_has ls 1 [(0, .ref xo)] := hl
  refine lv_aload_n hx hb dX6_weakest_0 rfl (lv_at hl 0 rfl) ?_
  refine va_get (D := D) (ci := 6) (v := .ref xn) (C := RX6) (T := TX6) (N := 8) hx hb hts in_X6_weakest_X6 hown hK hP 0 rfl rfl 2 (by decide) (hts (.fieldLink RX6 28 "TypingCoach" "lettersIn" "LTypingCoach$LettersIn;") (List.mem_of_getElem? (i := 1) rfl)) (fun _ h9 => h9) rfl dX6_weakest_1 ?_
  refine rdV (As := []) (rest := []) ⟨hx, hb, hml, hown, hts⟩ (c_X4_weakestOfAll l D z q xn na xg ia g1 y1 g2 y2 g3 y3 g4 y4 ct ti sh pr wt wh) (cwV 0 hts gX6_weakest_X4_weakestOfAll rfl rfl rfl hd_X4_weakestOfAll ⟨Nat.le_of_ble_eq_true rfl, Nat.le_of_ble_eq_true rfl⟩) hE hS hA hP [1, 2, 3, 4, 5, 6, 7, 8, 9, 10, 11] rfl rfl rfl rfl rfl hl.1 rfl (Nat.le_of_ble_eq_true rfl) dX6_weakest_4 ⟨(Nat.le_of_ble_eq_true rfl), (Nat.le_of_ble_eq_true rfl)⟩ ?_
  exact rd_i hx hb hr hlocks dX6_weakest_7 (rfl)
set_option maxRecDepth 20000 in
theorem in_X6_lessons_X6 : ∀ w ∈ wsX60, w ∈ wsX6_lessons := mem_r _ [2, 3, 4, 5, 6, 7, 8, 9] (by decide +kernel)
set_option maxRecDepth 20000 in
theorem in_X6_lessons_X5 : ∀ w ∈ wsX50, w ∈ wsX6_lessons := mem_r _ [10, 11] (by decide +kernel)
theorem hd_X6_lessons : yX6_lessons.cls = RX6 ∧ yX6_lessons.cls ≠ "java/lang/invoke/MethodHandle" ∧ yX6_lessons.cls ≠ "java/lang/invoke/VarHandle" ∧ (parseMethodDescriptor yX6_lessons.desc).map (fun d => d.parameters.length) = some 0 := by decide +kernel
set_option maxHeartbeats 4000000 in
set_option maxRecDepth 100000 in
theorem c_X6_lessons (l : Launch) (D : va_G) (z : Nat → ClassId) (q : Nat → Nat) (xo : Nat) (xb : Nat) (xg : Nat) (xn : Nat) (xt : Nat) (xp : Nat) (xk : Nat) (xf : Nat) (dy : Int32) (p1 : Nat) (k1 : Nat) (kp : Nat → Int32) (sn : Int32)  : RD l yX6_lessons wsX6_lessons ({ frames := 0, cells := 0, slots := 0, locals := 0 } : Room) D z q [.ref xo] [(xo, .inr (6, [.ref xb, .ref xg, .ref xn, .ref xt, .ref xp, .ref xk, .ref xf, .int dy])), (xp, .inr (5, [.ref p1, .int sn])), (p1, .inr (1, [.ref k1])), (k1, .inl (z 0, 100, .inl kp))] (some (.int sn)) := by
  refine RD_mk (cc := cX6_lessons) (maxL := 1) (ret := (some .int)) (by decide) rfl (Nat.le_of_ble_eq_true rfl) ?_
  intro p e s m below meth c hx hb hr hml hts hown hlocks hP hE hS hA ls hl
  have hK := hE.1
  have hown : s.vm.findClass RX6 = some m.cls := hown
  have hl : lv_has ls 1 [(0, .ref xo)] := hl
  refine lv_aload_n hx hb dX6_lessons_0 rfl (lv_at hl 0 rfl) ?_
  refine va_get (D := D) (ci := 6) (v := .ref xp) (C := RX6) (T := TX6) (N := 8) hx hb hts in_X6_lessons_X6 hown hK hP 0 rfl rfl 4 (by decide) (hts (.fieldLink RX6 42 "TypingCoach" "speeds" "LTypingCoach$Speeds;") (List.mem_of_getElem? (i := 1) rfl)) (fun _ h9 => h9) rfl dX6_lessons_1 ?_
  refine va_getN (D := D) (ci := 5) (v := .int sn) (C := RX5) (T := TX5) (N := 2) hx hb hts in_X6_lessons_X5 hown hK hP 1 rfl rfl 1 (by decide) (va_Nw.use rfl (hE.2.1.1 (206, "TypingCoach$Speeds", "size", "I") (List.mem_of_getElem? (i := 8) rfl))) (fun _ h9 => h9) rfl dX6_lessons_4 ?_
  exact rd_i hx hb hr hlocks dX6_lessons_7 (rfl)
set_option maxRecDepth 20000 in
theorem in_X6_speedOf_X6 : ∀ w ∈ wsX60, w ∈ wsX6_speedOf := mem_r _ [14, 15, 16, 17, 18, 19, 20, 21] (by decide +kernel)
set_option maxRecDepth 20000 in
theorem in_X6_speedOf_X5 : ∀ w ∈ wsX50, w ∈ wsX6_speedOf := mem_r _ [22, 23] (by decide +kernel)
theorem hd_X6_speedOf : yX6_speedOf.cls = RX6 ∧ yX6_speedOf.cls ≠ "java/lang/invoke/MethodHandle" ∧ yX6_speedOf.cls ≠ "java/lang/invoke/VarHandle" ∧ (parseMethodDescriptor yX6_speedOf.desc).map (fun d => d.parameters.length) = some 1 := by decide +kernel
set_option maxHeartbeats 4000000 in
set_option maxRecDepth 100000 in
theorem c_X6_speedOf (l : Launch) (D : va_G) (z : Nat → ClassId) (q : Nat → Nat) (xo : Nat) (xb : Nat) (xg : Nat) (xn : Nat) (xt : Nat) (xp : Nat) (xk : Nat) (xf : Nat) (dy : Int32) (p1 : Nat) (k1 : Nat) (kp : Nat → Int32) (sn : Int32) (i : Int32) (sz : Nat) (hlt : l.stackTraces = false) : TX l yX6_speedOf wsX6_speedOf ({ frames := 6, cells := 3, slots := 18, locals := 120 } : Room) D z q [.ref xo, .int i] [(xo, .inr (6, [.ref xb, .ref xg, .ref xn, .ref xt, .ref xp, .ref xk, .ref xf, .int dy])), (xp, .inr (5, [.ref p1, .int sn])), (p1, .inr (1, [.ref k1])), (k1, .inl (z 0, 100, .inl kp))] sz [(xo, .inr (6, [.ref xb, .ref xg, .ref xn, .ref xt, .ref xp, .ref xk, .ref xf, .int dy])), (xp, .inr (5, [.ref p1, .int sn])), (p1, .inr (1, [.ref k1])), (k1, .inl (z 0, 100, .inl kp))] (some (.int (cAt 100 kp i))) (¬ bW i 0 (sn - 1) = 0) (fun E => (bW i 0 (sn - 1) = 0 ∧ E = xI)) := by
  refine TX_mk (Qc := fun A a st o t => (¬ bW i 0 (sn - 1) = 0) ∧ QW D [(xo, .inr (6, [.ref xb, .ref xg, .ref xn, .ref xt, .ref xp, .ref xk, .ref xf, .int dy])), (xp, .inr (5, [.ref p1, .int sn])), (p1, .inr (1, [.ref k1])), (k1, .inl (z 0, 100, .inl kp))] A (some (.int (cAt 100 kp i))) a st o t) (XC := XK (fun E => (bW i 0 (sn - 1) = 0 ∧ E = xI))) (mc := 3) (ms := 18) (cc := cX6_speedOf) (maxL := 2) (ret := (some .int)) (by decide) rfl (Nat.le_of_ble_eq_true rfl) ?_
  intro p e s m below meth c A hx hb hr hml hts hown hlocks hout H hH0 hP hD hE hS hA ls hl
  have hK := hE.1
  have hown : s.vm.findClass RX6 = some m.cls := hown
  have hl : lv_has ls 2 [(0, .ref xo), (1, .int i)] := hl
  refine lv_iload_n hx hb dX6_speedOf_0 rfl (lv_at hl 1 rfl) ?_
  refine lv_iconst (v := 0) hx hb dX6_speedOf_1 (by decide) ?_
  refine lv_aload_n hx hb dX6_speedOf_2 rfl (lv_at hl 0 rfl) ?_
  refine va_get (D := D) (ci := 6) (v := .ref xp) (C := RX6) (T := TX6) (N := 8) hx hb hts in_X6_speedOf_X6 hown hK hP 0 rfl rfl 4 (by decide) (hts (.fieldLink RX6 42 "TypingCoach" "speeds" "LTypingCoach$Speeds;") (List.mem_of_getElem? (i := 3) rfl)) (fun _ h9 => h9) rfl dX6_speedOf_3 ?_
  refine va_getN (D := D) (ci := 5) (v := .int sn) (C := RX5) (T := TX5) (N := 2) hx hb hts in_X6_speedOf_X5 hown hK hP 1 rfl rfl 1 (by decide) (va_Nw.use rfl (hE.2.1.1 (206, "TypingCoach$Speeds", "size", "I") (List.mem_of_getElem? (i := 8) rfl))) (fun _ h9 => h9) rfl dX6_speedOf_6 ?_
  refine lv_iconst (v := 1) hx hb dX6_speedOf_9 (by decide) ?_
  refine lv_isub hx hb dX6_speedOf_10 ?_
  refine rdS (As := [.int i, .int 0, .int (sn - 1)]) (rest := []) ⟨hx, hb, hml, hown, hts⟩ (c_X6_isWithin l D z q i 0 (sn - 1)) (va_cwS 3 hts gX6_speedOf_X6_isWithin rfl rfl rfl hd_X6_isWithin ⟨Nat.le_of_ble_eq_true rfl, Nat.le_of_ble_eq_true rfl⟩) hE hS hA hP [] rfl rfl hl.1 rfl (Nat.le_of_ble_eq_true rfl) dX6_speedOf_11 ⟨(Nat.le_of_ble_eq_true rfl), (Nat.le_of_ble_eq_true rfl)⟩ ?_
  refine lv_if_ne (tgt := 27) hx hb dX6_speedOf_14 (by decide) (fun c_1 => ?_) (fun c_1 => ?_)
  · refine lv_aload_n hx hb dX6_speedOf_27 rfl (lv_at hl 0 rfl) ?_
    refine va_get (D := D) (ci := 6) (v := .ref xp) (C := RX6) (T := TX6) (N := 8) hx hb hts in_X6_speedOf_X6 hown hK hP 0 rfl rfl 4 (by decide) (hts (.fieldLink RX6 42 "TypingCoach" "speeds" "LTypingCoach$Speeds;") (List.mem_of_getElem? (i := 3) rfl)) (fun _ h9 => h9) rfl dX6_speedOf_28 ?_
    refine va_getN (D := D) (ci := 5) (v := .ref p1) (C := RX5) (T := TX5) (N := 2) hx hb hts in_X6_speedOf_X5 hown hK hP 1 rfl rfl 0 (by decide) (va_Nw.use rfl (hE.2.1.1 (209, "TypingCoach$Speeds", "kept", "LTypingCoach$Cells;") (List.mem_of_getElem? (i := 9) rfl))) (fun _ h9 => h9) rfl dX6_speedOf_31 ?_
    refine lv_iload_n hx hb dX6_speedOf_34 rfl (lv_at hl 1 rfl) ?_
    refine rdV (As := [.int i]) (rest := []) ⟨hx, hb, hml, hown, hts⟩ (c_X1_at l D z q p1 k1 100 kp i (Nat.le_of_ble_eq_true rfl)) (cwV 1 hts gX6_speedOf_X1_at rfl rfl rfl hd_X1_at ⟨Nat.le_of_ble_eq_true rfl, Nat.le_of_ble_eq_true rfl⟩) hE hS hA hP [2, 3] rfl rfl rfl rfl rfl hl.1 rfl (Nat.le_of_ble_eq_true rfl) dX6_speedOf_35 ⟨(Nat.le_of_ble_eq_true rfl), (Nat.le_of_ble_eq_true rfl)⟩ ?_
    exact tx_i hx hb hr hlocks hP hD hS dX6_speedOf_38 (c_1) (rfl) (rfl) (Nat.le_of_ble_eq_true rfl) (Nat.le_of_ble_eq_true rfl)
  · exact thr (is := 207) (text := "no such lesson") (cls := xI) hx hb hlt hown fitI xIm (hts (.classLink RX6 70 "java/lang/IndexOutOfBoundsException") (List.mem_of_getElem? (i := 1) rfl)) (hts (.initialized "java/lang/IndexOutOfBoundsException") (List.mem_of_getElem? (i := 2) rfl)) (List.mem_of_getElem? (i := 8) rfl) ng74 (fun w h => hts w (List.mem_cons_of_mem _ (List.mem_append_right _ h))) gd74 hE hS hH0 hml hl.1 dX6_speedOf_17 dX6_speedOf_20 dX6_speedOf_21 dX6_speedOf_23 dX6_speedOf_26 hout hlocks (Nat.le_of_ble_eq_true rfl) (Nat.le_of_ble_eq_true rfl) ⟨(Nat.le_of_ble_eq_true rfl), (Nat.le_of_ble_eq_true rfl)⟩ (⟨c_1, rfl⟩) (Nat.le_of_ble_eq_true rfl) (Nat.le_of_ble_eq_true rfl)
set_option maxRecDepth 20000 in
theorem in_X6_falls_X6 : ∀ w ∈ wsX60, w ∈ wsX6_falls := mem_r _ [15, 16, 17, 18, 19, 20, 21, 22] (by decide +kernel)
theorem hd_X6_falls : yX6_falls.cls = RX6 ∧ yX6_falls.cls ≠ "java/lang/invoke/MethodHandle" ∧ yX6_falls.cls ≠ "java/lang/invoke/VarHandle" ∧ (parseMethodDescriptor yX6_falls.desc).map (fun d => d.parameters.length) = some 0 := by decide +kernel
set_option maxHeartbeats 4000000 in
set_option maxRecDepth 100000 in
theorem c_X6_falls (l : Launch) (D : va_G) (z : Nat → ClassId) (q : Nat → Nat) (xo : Nat) (xb : Nat) (xg : Nat) (xn : Nat) (xt : Nat) (xp : Nat) (xk : Nat) (xf : Nat) (dy : Int32) (p1 : Nat) (k1 : Nat) (kp : Nat → Int32) (sn : Int32) (zn : Nat) (hzz : sn = nI zn) (hz : zn ≤ 100) : RD l yX6_falls wsX6_falls ({ frames := 2, cells := 0, slots := 0, locals := 43 } : Room) D z q [.ref xo] [(xo, .inr (6, [.ref xb, .ref xg, .ref xn, .ref xt, .ref xp, .ref xk, .ref xf, .int dy])), (xp, .inr (5, [.ref p1, .int sn])), (p1, .inr (1, [.ref k1])), (k1, .inl (z 0, 100, .inl kp))] (some (.int (nI (pFall kp (zn - 1))))) := by
  refine RD_mk (cc := cX6_falls) (maxL := 1) (ret := (some .int)) (by decide) rfl (Nat.le_of_ble_eq_true rfl) ?_
  intro p e s m below meth c hx hb hr hml hts hown hlocks hP hE hS hA ls hl
  have hK := hE.1
  have hown : s.vm.findClass RX6 = some m.cls := hown
  have hl : lv_has ls 1 [(0, .ref xo)] := hl
  refine lv_aload_n hx hb dX6_falls_0 rfl (lv_at hl 0 rfl) ?_
  refine va_get (D := D) (ci := 6) (v := .ref xp) (C := RX6) (T := TX6) (N := 8) hx hb hts in_X6_falls_X6 hown hK hP 0 rfl rfl 4 (by decide) (hts (.fieldLink RX6 42 "TypingCoach" "speeds" "LTypingCoach$Speeds;") (List.mem_of_getElem? (i := 1) rfl)) (fun _ h9 => h9) rfl dX6_falls_1 ?_
  refine rdV (As := []) (rest := []) ⟨hx, hb, hml, hown, hts⟩ (c_X5_fallsAtTheEnd l D z q xp p1 k1 kp sn zn hzz hz) (cwV 0 hts gX6_falls_X5_fallsAtTheEnd rfl rfl rfl hd_X5_fallsAtTheEnd ⟨Nat.le_of_ble_eq_true rfl, Nat.le_of_ble_eq_true rfl⟩) hE hS hA hP [1, 2, 3] rfl rfl rfl rfl rfl hl.1 rfl (Nat.le_of_ble_eq_true rfl) dX6_falls_4 ⟨(Nat.le_of_ble_eq_true rfl), (Nat.le_of_ble_eq_true rfl)⟩ ?_
  exact rd_i hx hb hr hlocks dX6_falls_7 (rfl)
end
