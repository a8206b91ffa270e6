/-! ===== act ===== -/
abbrev coL (z : Nat → ClassId) (aa : Nat → Nat) (pl lo ct ti sh pr ia lt ty kp ek ef : Fn) (wt wh zz po me ml sn dy : Int32) : va_W := [((aa 0), .inr (6, [.ref (aa 1), .ref (aa 6), .ref (aa 15), .ref (aa 17), .ref (aa 22), .ref (aa 25), .ref (aa 27), .int dy])), ((aa 1), .inr (0, [.ref (aa 2), .ref (aa 4)])), ((aa 2), .inr (1, [.ref (aa 3)])), ((aa 3), .inl (z 0, 26, .inl pl)), ((aa 4), .inr (1, [.ref (aa 5)])), ((aa 5), .inl (z 0, 30, .inl lo)), ((aa 6), .inr (2, [.ref (aa 7), .ref (aa 9), .ref (aa 11), .ref (aa 13), .int wt, .int wh])), ((aa 7), .inr (1, [.ref (aa 8)])), ((aa 8), .inl (z 0, 26, .inl ct)), ((aa 9), .inr (1, [.ref (aa 10)])), ((aa 10), .inl (z 0, 26, .inl ti)), ((aa 11), .inr (1, [.ref (aa 12)])), ((aa 12), .inl (z 0, 26, .inl sh)), ((aa 13), .inr (1, [.ref (aa 14)])), ((aa 14), .inl (z 0, 676, .inl pr)), ((aa 15), .inr (4, [.ref (aa 16), .ref (aa 6)])), ((aa 16), .inl (z 1, 26, .inl ia)), ((aa 17), .inr (3, [.ref (aa 18), .ref (aa 20), .int zz, .int po, .int me, .int ml])), ((aa 18), .inr (1, [.ref (aa 19)])), ((aa 19), .inl (z 0, 40, .inl lt)), ((aa 20), .inr (1, [.ref (aa 21)])), ((aa 21), .inl (z 0, 40, .inl ty)), ((aa 22), .inr (5, [.ref (aa 23), .int sn])), ((aa 23), .inr (1, [.ref (aa 24)])), ((aa 24), .inl (z 0, 100, .inl kp)), ((aa 25), .inr (1, [.ref (aa 26)])), ((aa 26), .inl (z 0, 5, .inl ek)), ((aa 27), .inr (1, [.ref (aa 28)])), ((aa 28), .inl (z 0, 8, .inl ef))]
abbrev Co : Type := Fn × Fn × Fn × Fn × Fn × Fn × Fn × Fn × Fn × Fn × Fn × Fn × Int32 × Int32 × Int32 × Int32 × Int32 × Int32 × Int32 × Int32
abbrev coW (z : Nat → ClassId) (aa : Nat → Nat) (S : Co) : va_W := coL z aa S.1 S.2.1 S.2.2.1 S.2.2.2.1 S.2.2.2.2.1 S.2.2.2.2.2.1 S.2.2.2.2.2.2.1 S.2.2.2.2.2.2.2.1 S.2.2.2.2.2.2.2.2.1 S.2.2.2.2.2.2.2.2.2.1 S.2.2.2.2.2.2.2.2.2.2.1 S.2.2.2.2.2.2.2.2.2.2.2.1 S.2.2.2.2.2.2.2.2.2.2.2.2.1 S.2.2.2.2.2.2.2.2.2.2.2.2.2.1 S.2.2.2.2.2.2.2.2.2.2.2.2.2.2.1 S.2.2.2.2.2.2.2.2.2.2.2.2.2.2.2.1 S.2.2.2.2.2.2.2.2.2.2.2.2.2.2.2.2.1 S.2.2.2.2.2.2.2.2.2.2.2.2.2.2.2.2.2.1 S.2.2.2.2.2.2.2.2.2.2.2.2.2.2.2.2.2.2.1 S.2.2.2.2.2.2.2.2.2.2.2.2.2.2.2.2.2.2.2
abbrev CIN (N : Nat) (S : Co) : Prop := CI N S.1 S.2.1 S.2.2.1 S.2.2.2.1 S.2.2.2.2.1 S.2.2.2.2.2.1 S.2.2.2.2.2.2.1 S.2.2.2.2.2.2.2.1 S.2.2.2.2.2.2.2.2.1 S.2.2.2.2.2.2.2.2.2.1 S.2.2.2.2.2.2.2.2.2.2.1 S.2.2.2.2.2.2.2.2.2.2.2.1 S.2.2.2.2.2.2.2.2.2.2.2.2.1 S.2.2.2.2.2.2.2.2.2.2.2.2.2.1 S.2.2.2.2.2.2.2.2.2.2.2.2.2.2.1 S.2.2.2.2.2.2.2.2.2.2.2.2.2.2.2.1 S.2.2.2.2.2.2.2.2.2.2.2.2.2.2.2.2.1 S.2.2.2.2.2.2.2.2.2.2.2.2.2.2.2.2.2.1 S.2.2.2.2.2.2.2.2.2.2.2.2.2.2.2.2.2.2.1 S.2.2.2.2.2.2.2.2.2.2.2.2.2.2.2.2.2.2.2
/-- what a point of act stands on -/
def AG (p : Program) (l : Launch) (s : State) (m : MethodId) (meth : Method) (c : Code) (D : va_G) (z : Nat → ClassId) (q aa : Nat → Nat) (A : Nat → Prop) (v : Int32) : Prop :=
  p.tables.exec = Jvm.exec ∧ c.code = cL_act ∧ meth.sig.returnType = some .int ∧ c.maxLocals = 7 ∧ (∀ w ∈ wsL_act, w.before ([.ref (aa 0), .int v] : List Value).toArray s = true) ∧ s.vm.findClass RL = some m.cls ∧ meth.locks = false ∧ EV D z q A s s.heap ∧ (∀ x : Nat, s.heap.size ≤ x → A x) ∧ l.stackTraces = false
/-- from a point of act to its end: the coach from S to S9, the answer a -/
def ACTX (S S9 : Co) (a v odd how letter millis : Int32) (pc : Nat) : Prop :=
  ∀ (p : Program) (l : Launch) (e : Env) (s : State) (m : MethodId) (below : List Frame) (meth : Method) (c : Code) (D : va_G) (z : Nat → ClassId) (q aa : Nat → Nat) (A : Nat → Prop) (H : Heap) (locs : List Loc), AG p l s m meth c D z q aa A v → va_P D vwCl (coW z aa S) H → va_D A (coW z aa S) → va_S A s.heap H locs →
    ∀ ls : Array Slot, lv_has ls 7 [(2, .int odd), (3, .int how), (4, .int letter), (5, .int millis), (0, .ref (aa 0)), (1, .int v)] → W p l e ({ frames := 9, cells := 6, slots := 36, locals := 189 } : Room) s m ([.ref (aa 0), .int v] : List Value).toArray below meth c H locs 0 0 (MQ below (QW D (coW z aa S9) A (some (.int a))) ([.ref (aa 0), .int v] : List Value).toArray s 6 36 A) (F0 m pc ls [])
/-- what act does to a coach: from S to S9, the answer a -/
def ACT (S S9 : Co) (a v : Int32) : Prop := ∀ (l : Launch) (D : va_G) (z : Nat → ClassId) (q aa : Nat → Nat) (sz : Nat), l.stackTraces = false → HN l yL_act wsL_act ({ frames := 9, cells := 6, slots := 36, locals := 189 } : Room) D z q [.ref (aa 0), .int v] (coW z aa S) sz (coW z aa S9) (some (.int a)) 6 36
theorem hd_L_act : yL_act.cls ≠ "java/lang/invoke/MethodHandle" ∧ yL_act.cls ≠ "java/lang/invoke/VarHandle" ∧ (parseMethodDescriptor yL_act.desc).map (fun d => d.parameters.length) = some 2 := by decide +kernel

set_option maxHeartbeats 4000000 in
set_option maxRecDepth 100000 in
theorem act_pre (v : Int32) : ∃ odd how letter millis : Int32, ∀ (S S9 : Co) (a : Int32), ACTX S S9 a v odd how letter millis 114 → ACT S S9 a v := by
  by_cases h1 : lLow (lSh v 24) 8 = 0
  · refine ⟨1, lLow v 36, lLow (lSh v 6) 30 - 2, lLow (lSh v 9) 5400, fun S S9 a T l D z q aa sz hlt => ?_⟩
    refine WR_mk (Qc := fun A => QW D (coW z aa S9) A (some (.int a))) (cc := cL_act) (maxL := 7) (ret := (some .int)) (by decide) rfl (Nat.le_of_ble_eq_true rfl) ?_
    intro p e s m below meth c A hx hb hr hml hts hown hlocks hin0 H hP hD hE hS hA ls hl
    have hown : s.vm.findClass RL = some m.cls := hown
    have hl : lv_has ls 7 [(0, .ref (aa 0)), (1, .int v)] := hl
    refine lv_iload_n hx hb dL_act_0 rfl (lv_at hl 1 rfl) ?_
    refine lv_bipush (v := 24) hx hb dL_act_1 (by decide) ?_
    refine lv_ishr hx hb dL_act_3 ?_
    refine lv_bipush (v := 8) hx hb dL_act_4 (by decide) ?_
    refine rdS (As := [.int (lSh v 24), .int 8]) (rest := []) ⟨hx, hb, hml, hown, hts⟩ (c_L_low l D z q (lSh v 24) 8 (by decide)) (va_cwS 2 hts gL_act_L_low rfl rfl rfl hd_L_low ⟨Nat.le_of_ble_eq_true rfl, Nat.le_of_ble_eq_true rfl⟩) hE hS hA hP [] rfl rfl hl.1 rfl (Nat.le_of_ble_eq_true rfl) dL_act_6 ⟨(by show 0 + 0 ≤ 6; omega), (by show 0 + 0 ≤ 36; omega)⟩ ?_
    refine lv_if_ne (tgt := 16) hx hb dL_act_9 (by decide) (fun c_1 => absurd h1 c_1) (fun c_1 => ?_)
    refine lv_iconst (v := 1) hx hb dL_act_12 (by decide) ?_
    refine lv_goto (tgt := 17) hx hb dL_act_13 (by decide) ?_
    refine lv_istore_n (lv' := [(2, .int 1), (0, .ref (aa 0)), (1, .int v)]) hx hb dL_act_17 rfl hl (by decide) rfl (fun ls hl => ?_)
    refine lv_iload_n hx hb dL_act_18 rfl (lv_at hl 2 rfl) ?_
    refine lv_bipush (v := 36) hx hb dL_act_19 (by decide) ?_
    refine rdS (As := [.int v, .int 36]) (rest := []) ⟨hx, hb, hml, hown, hts⟩ (c_L_low l D z q v 36 (by decide)) (va_cwS 2 hts gL_act_L_low rfl rfl rfl hd_L_low ⟨Nat.le_of_ble_eq_true rfl, Nat.le_of_ble_eq_true rfl⟩) hE hS hA hP [] rfl rfl hl.1 rfl (Nat.le_of_ble_eq_true rfl) dL_act_21 ⟨(by show 0 + 0 ≤ 6; omega), (by show 0 + 0 ≤ 36; omega)⟩ ?_
    refine lv_istore_n (lv' := [(3, .int (lLow v 36)), (2, .int 1), (0, .ref (aa 0)), (1, .int v)]) hx hb dL_act_24 rfl hl (by decide) rfl (fun ls hl => ?_)
    refine lv_iload_n hx hb dL_act_25 rfl (lv_at hl 1 rfl) ?_
    refine lv_if_eq (tgt := 43) hx hb dL_act_26 (by decide) (fun c_2 => absurd c_2 (by decide)) (fun _ => ?_)
    refine lv_iload_n hx hb dL_act_29 rfl (lv_at hl 3 rfl) ?_
    refine lv_bipush (v := 6) hx hb dL_act_30 (by decide) ?_
    refine lv_ishr hx hb dL_act_32 ?_
    refine lv_bipush (v := 30) hx hb dL_act_33 (by decide) ?_
    refine rdS (As := [.int (lSh v 6), .int 30]) (rest := []) ⟨hx, hb, hml, hown, hts⟩ (c_L_low l D z q (lSh v 6) 30 (by decide)) (va_cwS 2 hts gL_act_L_low rfl rfl rfl hd_L_low ⟨Nat.le_of_ble_eq_true rfl, Nat.le_of_ble_eq_true rfl⟩) hE hS hA hP [] rfl rfl hl.1 rfl (Nat.le_of_ble_eq_true rfl) dL_act_35 ⟨(by show 0 + 0 ≤ 6; omega), (by show 0 + 0 ≤ 36; omega)⟩ ?_
    refine lv_iconst (v := 2) hx hb dL_act_38 (by decide) ?_
    refine lv_isub hx hb dL_act_39 ?_
    refine lv_goto (tgt := 66) hx hb dL_act_40 (by decide) ?_
    refine lv_istore (lv' := [(4, .int ((lLow (lSh v 6) 30) - 2)), (3, .int (lLow v 36)), (2, .int 1), (0, .ref (aa 0)), (1, .int v)]) hx hb dL_act_66 hl (by decide) rfl (fun ls hl => ?_)
    refine lv_iload_n hx hb dL_act_68 rfl (lv_at hl 2 rfl) ?_
    refine lv_if_eq (tgt := 85) hx hb dL_act_69 (by decide) (fun c_3 => absurd c_3 (by decide)) (fun _ => ?_)
    refine lv_iload_n hx hb dL_act_72 rfl (lv_at hl 4 rfl) ?_
    refine lv_bipush (v := 9) hx hb dL_act_73 (by decide) ?_
    refine lv_ishr hx hb dL_act_75 ?_
    refine lv_sipush (v := 5400) hx hb dL_act_76 (by decide) ?_
    refine rdS (As := [.int (lSh v 9), .int 5400]) (rest := []) ⟨hx, hb, hml, hown, hts⟩ (c_L_low l D z q (lSh v 9) 5400 (by decide)) (va_cwS 2 hts gL_act_L_low rfl rfl rfl hd_L_low ⟨Nat.le_of_ble_eq_true rfl, Nat.le_of_ble_eq_true rfl⟩) hE hS hA hP [] rfl rfl hl.1 rfl (Nat.le_of_ble_eq_true rfl) dL_act_79 ⟨(by show 0 + 0 ≤ 6; omega), (by show 0 + 0 ≤ 36; omega)⟩ ?_
    refine lv_goto (tgt := 112) hx hb dL_act_82 (by decide) ?_
    refine lv_istore (lv' := [(5, .int (lLow (lSh v 9) 5400)), (4, .int ((lLow (lSh v 6) 30) - 2)), (3, .int (lLow v 36)), (2, .int 1), (0, .ref (aa 0)), (1, .int v)]) hx hb dL_act_112 hl (by decide) rfl (fun ls hl => ?_)
    exact T p l e s m below meth c D z q aa A H [] ⟨hx, hb, hr, hml, hts, hown, hlocks, hE, hA, hlt⟩ hP hD hS ls (lv_sub hl [3, 2, 1, 0, 4, 5] rfl)
  · by_cases h2 : lSh v 18 &&& 3 = 0
    · by_cases h3 : lSh v 19 &&& 1 = 0
      · refine ⟨0, lLow v 36, lLow (lSh v 6) 26, (1 : Int32) + (lLow (lSh v 9) 5000), fun S S9 a T l D z q aa sz hlt => ?_⟩
        refine WR_mk (Qc := fun A => QW D (coW z aa S9) A (some (.int a))) (cc := cL_act) (maxL := 7) (ret := (some .int)) (by decide) rfl (Nat.le_of_ble_eq_true rfl) ?_
        intro p e s m below meth c A hx hb hr hml hts hown hlocks hin0 H hP hD hE hS hA ls hl
        have hown : s.vm.findClass RL = some m.cls := hown
        have hl : lv_has ls 7 [(0, .ref (aa 0)), (1, .int v)] := hl
        refine lv_iload_n hx hb dL_act_0 rfl (lv_at hl 1 rfl) ?_
        refine lv_bipush (v := 24) hx hb dL_act_1 (by decide) ?_
        refine lv_ishr hx hb dL_act_3 ?_
        refine lv_bipush (v := 8) hx hb dL_act_4 (by decide) ?_
        refine rdS (As := [.int (lSh v 24), .int 8]) (rest := []) ⟨hx, hb, hml, hown, hts⟩ (c_L_low l D z q (lSh v 24) 8 (by decide)) (va_cwS 2 hts gL_act_L_low rfl rfl rfl hd_L_low ⟨Nat.le_of_ble_eq_true rfl, Nat.le_of_ble_eq_true rfl⟩) hE hS hA hP [] rfl rfl hl.1 rfl (Nat.le_of_ble_eq_true rfl) dL_act_6 ⟨(by show 0 + 0 ≤ 6; omega), (by show 0 + 0 ≤ 36; omega)⟩ ?_
        refine lv_if_ne (tgt := 16) hx hb dL_act_9 (by decide) (fun c_1 => ?_) (fun c_1 => absurd c_1 h1)
        refine lv_iconst (v := 0) hx hb dL_act_16 (by decide) ?_
        refine lv_istore_n (lv' := [(2, .int 0), (0, .ref (aa 0)), (1, .int v)]) hx hb dL_act_17 rfl hl (by decide) rfl (fun ls hl => ?_)
        refine lv_iload_n hx hb dL_act_18 rfl (lv_at hl 2 rfl) ?_
        refine lv_bipush (v := 36) hx hb dL_act_19 (by decide) ?_
        refine rdS (As := [.int v, .int 36]) (rest := []) ⟨hx, hb, hml, hown, hts⟩ (c_L_low l D z q v 36 (by decide)) (va_cwS 2 hts gL_act_L_low rfl rfl rfl hd_L_low ⟨Nat.le_of_ble_eq_true rfl, Nat.le_of_ble_eq_true rfl⟩) hE hS hA hP [] rfl rfl hl.1 rfl (Nat.le_of_ble_eq_true rfl) dL_act_21 ⟨(by show 0 + 0 ≤ 6; omega), (by show 0 + 0 ≤ 36; omega)⟩ ?_
        refine lv_istore_n (lv' := [(3, .int (lLow v 36)), (2, .int 0), (0, .ref (aa 0)), (1, .int v)]) hx hb dL_act_24 rfl hl (by decide) rfl (fun ls hl => ?_)
        refine lv_iload_n hx hb dL_act_25 rfl (lv_at hl 1 rfl) ?_
        refine lv_if_eq (tgt := 43) hx hb dL_act_26 (by decide) (fun _ => ?_) (fun c_2 => absurd (by decide) c_2)
        refine lv_iload_n hx hb dL_act_43 rfl (lv_at hl 3 rfl) ?_
        refine lv_bipush (v := 6) hx hb dL_act_44 (by decide) ?_
        refine lv_ishr hx hb dL_act_46 ?_
        refine lv_iload_n hx hb dL_act_47 rfl (lv_at hl 3 rfl) ?_
        refine lv_bipush (v := 18) hx hb dL_act_48 (by decide) ?_
        refine lv_ishr hx hb dL_act_50 ?_
        refine lv_iconst (v := 3) hx hb dL_act_51 (by decide) ?_
        refine lv_iand hx hb dL_act_52 ?_
        refine lv_if_ne (tgt := 61) hx hb dL_act_53 (by decide) (fun c_3 => absurd h2 c_3) (fun c_3 => ?_)
        refine lv_bipush (v := 26) hx hb dL_act_56 (by decide) ?_
        refine lv_goto (tgt := 63) hx hb dL_act_58 (by decide) ?_
        refine rdS (As := [.int (lSh v 6), .int 26]) (rest := []) ⟨hx, hb, hml, hown, hts⟩ (c_L_low l D z q (lSh v 6) 26 (by decide)) (va_cwS 2 hts gL_act_L_low rfl rfl rfl hd_L_low ⟨Nat.le_of_ble_eq_true rfl, Nat.le_of_ble_eq_true rfl⟩) hE hS hA hP [] rfl rfl hl.1 rfl (Nat.le_of_ble_eq_true rfl) dL_act_63 ⟨(by show 0 + 0 ≤ 6; omega), (by show 0 + 0 ≤ 36; omega)⟩ ?_
        refine lv_istore (lv' := [(4, .int (lLow (lSh v 6) 26)), (3, .int (lLow v 36)), (2, .int 0), (0, .ref (aa 0)), (1, .int v)]) hx hb dL_act_66 hl (by decide) rfl (fun ls hl => ?_)
        refine lv_iload_n hx hb dL_act_68 rfl (lv_at hl 2 rfl) ?_
        refine lv_if_eq (tgt := 85) hx hb dL_act_69 (by decide) (fun _ => ?_) (fun c_4 => absurd (by decide) c_4)
        refine lv_iconst (v := 1) hx hb dL_act_85 (by decide) ?_
        refine lv_iload_n hx hb dL_act_86 rfl (lv_at hl 4 rfl) ?_
        refine lv_bipush (v := 9) hx hb dL_act_87 (by decide) ?_
        refine lv_ishr hx hb dL_act_89 ?_
        refine lv_iload_n hx hb dL_act_90 rfl (lv_at hl 4 rfl) ?_
        refine lv_bipush (v := 19) hx hb dL_act_91 (by decide) ?_
        refine lv_ishr hx hb dL_act_93 ?_
        refine lv_iconst (v := 1) hx hb dL_act_94 (by decide) ?_
        refine lv_iand hx hb dL_act_95 ?_
        refine lv_if_ne (tgt := 105) hx hb dL_act_96 (by decide) (fun c_5 => absurd h3 c_5) (fun c_5 => ?_)
        refine lv_sipush (v := 5000) hx hb dL_act_99 (by decide) ?_
        refine lv_goto (tgt := 108) hx hb dL_act_102 (by decide) ?_
        refine rdS (As := [.int (lSh v 9), .int 5000]) (rest := [.int 1]) ⟨hx, hb, hml, hown, hts⟩ (c_L_low l D z q (lSh v 9) 5000 (by decide)) (va_cwS 2 hts gL_act_L_low rfl rfl rfl hd_L_low ⟨Nat.le_of_ble_eq_true rfl, Nat.le_of_ble_eq_true rfl⟩) hE hS hA hP [] rfl rfl hl.1 rfl (Nat.le_of_ble_eq_true rfl) dL_act_108 ⟨(by show 0 + 0 ≤ 6; omega), (by show 0 + 0 ≤ 36; omega)⟩ ?_
        refine lv_iadd hx hb dL_act_111 ?_
        refine lv_istore (lv' := [(5, .int ((1 : Int32) + (lLow (lSh v 9) 5000))), (4, .int (lLow (lSh v 6) 26)), (3, .int (lLow v 36)), (2, .int 0), (0, .ref (aa 0)), (1, .int v)]) hx hb dL_act_112 hl (by decide) rfl (fun ls hl => ?_)
        exact T p l e s m below meth c D z q aa A H [] ⟨hx, hb, hr, hml, hts, hown, hlocks, hE, hA, hlt⟩ hP hD hS ls (lv_sub hl [3, 2, 1, 0, 4, 5] rfl)
      · refine ⟨0, lLow v 36, lLow (lSh v 6) 26, (1 : Int32) + (lLow (lSh v 9) 250), fun S S9 a T l D z q aa sz hlt => ?_⟩
        refine WR_mk (Qc := fun A => QW D (coW z aa S9) A (some (.int a))) (cc := cL_act) (maxL := 7) (ret := (some .int)) (by decide) rfl (Nat.le_of_ble_eq_true rfl) ?_
        intro p e s m below meth c A hx hb hr hml hts hown hlocks hin0 H hP hD hE hS hA ls hl
        have hown : s.vm.findClass RL = some m.cls := hown
        have hl : lv_has ls 7 [(0, .ref (aa 0)), (1, .int v)] := hl
        refine lv_iload_n hx hb dL_act_0 rfl (lv_at hl 1 rfl) ?_
        refine lv_bipush (v := 24) hx hb dL_act_1 (by decide) ?_
        refine lv_ishr hx hb dL_act_3 ?_
        refine lv_bipush (v := 8) hx hb dL_act_4 (by decide) ?_
        refine rdS (As := [.int (lSh v 24), .int 8]) (rest := []) ⟨hx, hb, hml, hown, hts⟩ (c_L_low l D z q (lSh v 24) 8 (by decide)) (va_cwS 2 hts gL_act_L_low rfl rfl rfl hd_L_low ⟨Nat.le_of_ble_eq_true rfl, Nat.le_of_ble_eq_true rfl⟩) hE hS hA hP [] rfl rfl hl.1 rfl (Nat.le_of_ble_eq_true rfl) dL_act_6 ⟨(by show 0 + 0 ≤ 6; omega), (by show 0 + 0 ≤ 36; omega)⟩ ?_
        refine lv_if_ne (tgt := 16) hx hb dL_act_9 (by decide) (fun c_1 => ?_) (fun c_1 => absurd c_1 h1)
        refine lv_iconst (v := 0) hx hb dL_act_16 (by decide) ?_
        refine lv_istore_n (lv' := [(2, .int 0), (0, .ref (aa 0)), (1, .int v)]) hx hb dL_act_17 rfl hl (by decide) rfl (fun ls hl => ?_)
        refine lv_iload_n hx hb dL_act_18 rfl (lv_at hl 2 rfl) ?_
        refine lv_bipush (v := 36) hx hb dL_act_19 (by decide) ?_
        refine rdS (As := [.int v, .int 36]) (rest := []) ⟨hx, hb, hml, hown, hts⟩ (c_L_low l D z q v 36 (by decide)) (va_cwS 2 hts gL_act_L_low rfl rfl rfl hd_L_low ⟨Nat.le_of_ble_eq_true rfl, Nat.le_of_ble_eq_true rfl⟩) hE hS hA hP [] rfl rfl hl.1 rfl (Nat.le_of_ble_eq_true rfl) dL_act_21 ⟨(by show 0 + 0 ≤ 6; omega), (by show 0 + 0 ≤ 36; omega)⟩ ?_
        refine lv_istore_n (lv' := [(3, .int (lLow v 36)), (2, .int 0), (0, .ref (aa 0)), (1, .int v)]) hx hb dL_act_24 rfl hl (by decide) rfl (fun ls hl => ?_)
        refine lv_iload_n hx hb dL_act_25 rfl (lv_at hl 1 rfl) ?_
        refine lv_if_eq (tgt := 43) hx hb dL_act_26 (by decide) (fun _ => ?_) (fun c_2 => absurd (by decide) c_2)
        refine lv_iload_n hx hb dL_act_43 rfl (lv_at hl 3 rfl) ?_
        refine lv_bipush (v := 6) hx hb dL_act_44 (by decide) ?_
        refine lv_ishr hx hb dL_act_46 ?_
        refine lv_iload_n hx hb dL_act_47 rfl (lv_at hl 3 rfl) ?_
        refine lv_bipush (v := 18) hx hb dL_act_48 (by decide) ?_
        refine lv_ishr hx hb dL_act_50 ?_
        refine lv_iconst (v := 3) hx hb dL_act_51 (by decide) ?_
        refine lv_iand hx hb dL_act_52 ?_
        refine lv_if_ne (tgt := 61) hx hb dL_act_53 (by decide) (fun c_3 => absurd h2 c_3) (fun c_3 => ?_)
        refine lv_bipush (v := 26) hx hb dL_act_56 (by decide) ?_
        refine lv_goto (tgt := 63) hx hb dL_act_58 (by decide) ?_
        refine rdS (As := [.int (lSh v 6), .int 26]) (rest := []) ⟨hx, hb, hml, hown, hts⟩ (c_L_low l D z q (lSh v 6) 26 (by decide)) (va_cwS 2 hts gL_act_L_low rfl rfl rfl hd_L_low ⟨Nat.le_of_ble_eq_true rfl, Nat.le_of_ble_eq_true rfl⟩) hE hS hA hP [] rfl rfl hl.1 rfl (Nat.le_of_ble_eq_true rfl) dL_act_63 ⟨(by show 0 + 0 ≤ 6; omega), (by show 0 + 0 ≤ 36; omega)⟩ ?_
        refine lv_istore (lv' := [(4, .int (lLow (lSh v 6) 26)), (3, .int (lLow v 36)), (2, .int 0), (0, .ref (aa 0)), (1, .int v)]) hx hb dL_act_66 hl (by decide) rfl (fun ls hl => ?_)
        refine lv_iload_n hx hb dL_act_68 rfl (lv_at hl 2 rfl) ?_
        refine lv_if_eq (tgt := 85) hx hb dL_act_69 (by decide) (fun _ => ?_) (fun c_4 => absurd (by decide) c_4)
        refine lv_iconst (v := 1) hx hb dL_act_85 (by decide) ?_
        refine lv_iload_n hx hb dL_act_86 rfl (lv_at hl 4 rfl) ?_
        refine lv_bipush (v := 9) hx hb dL_act_87 (by decide) ?_
        refine lv_ishr hx hb dL_act_89 ?_
        refine lv_iload_n hx hb dL_act_90 rfl (lv_at hl 4 rfl) ?_
        refine lv_bipush (v := 19) hx hb dL_act_91 (by decide) ?_
        refine lv_ishr hx hb dL_act_93 ?_
        refine lv_iconst (v := 1) hx hb dL_act_94 (by decide) ?_
        refine lv_iand hx hb dL_act_95 ?_
        refine lv_if_ne (tgt := 105) hx hb dL_act_96 (by decide) (fun c_5 => ?_) (fun c_5 => absurd c_5 h3)
        refine lv_sipush (v := 250) hx hb dL_act_105 (by decide) ?_
        refine rdS (As := [.int (lSh v 9), .int 250]) (rest := [.int 1]) ⟨hx, hb, hml, hown, hts⟩ (c_L_low l D z q (lSh v 9) 250 (by decide)) (va_cwS 2 hts gL_act_L_low rfl rfl rfl hd_L_low ⟨Nat.le_of_ble_eq_true rfl, Nat.le_of_ble_eq_true rfl⟩) hE hS hA hP [] rfl rfl hl.1 rfl (Nat.le_of_ble_eq_true rfl) dL_act_108 ⟨(by show 0 + 0 ≤ 6; omega), (by show 0 + 0 ≤ 36; omega)⟩ ?_
        refine lv_iadd hx hb dL_act_111 ?_
        refine lv_istore (lv' := [(5, .int ((1 : Int32) + (lLow (lSh v 9) 250))), (4, .int (lLow (lSh v 6) 26)), (3, .int (lLow v 36)), (2, .int 0), (0, .ref (aa 0)), (1, .int v)]) hx hb dL_act_112 hl (by decide) rfl (fun ls hl => ?_)
        exact T p l e s m below meth c D z q aa A H [] ⟨hx, hb, hr, hml, hts, hown, hlocks, hE, hA, hlt⟩ hP hD hS ls (lv_sub hl [3, 2, 1, 0, 4, 5] rfl)
    · by_cases h3 : lSh v 19 &&& 1 = 0
      · refine ⟨0, lLow v 36, lLow (lSh v 6) 6, (1 : Int32) + (lLow (lSh v 9) 5000), fun S S9 a T l D z q aa sz hlt => ?_⟩
        refine WR_mk (Qc := fun A => QW D (coW z aa S9) A (some (.int a))) (cc := cL_act) (maxL := 7) (ret := (some .int)) (by decide) rfl (Nat.le_of_ble_eq_true rfl) ?_
        intro p e s m below meth c A hx hb hr hml hts hown hlocks hin0 H hP hD hE hS hA ls hl
        have hown : s.vm.findClass RL = some m.cls := hown
        have hl : lv_has ls 7 [(0, .ref (aa 0)), (1, .int v)] := hl
        refine lv_iload_n hx hb dL_act_0 rfl (lv_at hl 1 rfl) ?_
        refine lv_bipush (v := 24) hx hb dL_act_1 (by decide) ?_
        refine lv_ishr hx hb dL_act_3 ?_
        refine lv_bipush (v := 8) hx hb dL_act_4 (by decide) ?_
        refine rdS (As := [.int (lSh v 24), .int 8]) (rest := []) ⟨hx, hb, hml, hown, hts⟩ (c_L_low l D z q (lSh v 24) 8 (by decide)) (va_cwS 2 hts gL_act_L_low rfl rfl rfl hd_L_low ⟨Nat.le_of_ble_eq_true rfl, Nat.le_of_ble_eq_true rfl⟩) hE hS hA hP [] rfl rfl hl.1 rfl (Nat.le_of_ble_eq_true rfl) dL_act_6 ⟨(by show 0 + 0 ≤ 6; omega), (by show 0 + 0 ≤ 36; omega)⟩ ?_
        refine lv_if_ne (tgt := 16) hx hb dL_act_9 (by decide) (fun c_1 => ?_) (fun c_1 => absurd c_1 h1)
        refine lv_iconst (v := 0) hx hb dL_act_16 (by decide) ?_
        refine lv_istore_n (lv' := [(2, .int 0), (0, .ref (aa 0)), (1, .int v)]) hx hb dL_act_17 rfl hl (by decide) rfl (fun ls hl => ?_)
        refine lv_iload_n hx hb dL_act_18 rfl (lv_at hl 2 rfl) ?_
        refine lv_bipush (v := 36) hx hb dL_act_19 (by decide) ?_
        refine rdS (As := [.int v, .int 36]) (rest := []) ⟨hx, hb, hml, hown, hts⟩ (c_L_low l D z q v 36 (by decide)) (va_cwS 2 hts gL_act_L_low rfl rfl rfl hd_L_low ⟨Nat.le_of_ble_eq_true rfl, Nat.le_of_ble_eq_true rfl⟩) hE hS hA hP [] rfl rfl hl.1 rfl (Nat.le_of_ble_eq_true rfl) dL_act_21 ⟨(by show 0 + 0 ≤ 6; omega), (by show 0 + 0 ≤ 36; omega)⟩ ?_
        refine lv_istore_n (lv' := [(3, .int (lLow v 36)), (2, .int 0), (0, .ref (aa 0)), (1, .int v)]) hx hb dL_act_24 rfl hl (by decide) rfl (fun ls hl => ?_)
        refine lv_iload_n hx hb dL_act_25 rfl (lv_at hl 1 rfl) ?_
        refine lv_if_eq (tgt := 43) hx hb dL_act_26 (by decide) (fun _ => ?_) (fun c_2 => absurd (by decide) c_2)
        refine lv_iload_n hx hb dL_act_43 rfl (lv_at hl 3 rfl) ?_
        refine lv_bipush (v := 6) hx hb dL_act_44 (by decide) ?_
        refine lv_ishr hx hb dL_act_46 ?_
        refine lv_iload_n hx hb dL_act_47 rfl (lv_at hl 3 rfl) ?_
        refine lv_bipush (v := 18) hx hb dL_act_48 (by decide) ?_
        refine lv_ishr hx hb dL_act_50 ?_
        refine lv_iconst (v := 3) hx hb dL_act_51 (by decide) ?_
        refine lv_iand hx hb dL_act_52 ?_
        refine lv_if_ne (tgt := 61) hx hb dL_act_53 (by decide) (fun c_3 => ?_) (fun c_3 => absurd c_3 h2)
        refine lv_bipush (v := 6) hx hb dL_act_61 (by decide) ?_
        refine rdS (As := [.int (lSh v 6), .int 6]) (rest := []) ⟨hx, hb, hml, hown, hts⟩ (c_L_low l D z q (lSh v 6) 6 (by decide)) (va_cwS 2 hts gL_act_L_low rfl rfl rfl hd_L_low ⟨Nat.le_of_ble_eq_true rfl, Nat.le_of_ble_eq_true rfl⟩) hE hS hA hP [] rfl rfl hl.1 rfl (Nat.le_of_ble_eq_true rfl) dL_act_63 ⟨(by show 0 + 0 ≤ 6; omega), (by show 0 + 0 ≤ 36; omega)⟩ ?_
        refine lv_istore (lv' := [(4, .int (lLow (lSh v 6) 6)), (3, .int (lLow v 36)), (2, .int 0), (0, .ref (aa 0)), (1, .int v)]) hx hb dL_act_66 hl (by decide) rfl (fun ls hl => ?_)
        refine lv_iload_n hx hb dL_act_68 rfl (lv_at hl 2 rfl) ?_
        refine lv_if_eq (tgt := 85) hx hb dL_act_69 (by decide) (fun _ => ?_) (fun c_4 => absurd (by decide) c_4)
        refine lv_iconst (v := 1) hx hb dL_act_85 (by decide) ?_
        refine lv_iload_n hx hb dL_act_86 rfl (lv_at hl 4 rfl) ?_
        refine lv_bipush (v := 9) hx hb dL_act_87 (by decide) ?_
        refine lv_ishr hx hb dL_act_89 ?_
        refine lv_iload_n hx hb dL_act_90 rfl (lv_at hl 4 rfl) ?_
        refine lv_bipush (v := 19) hx hb dL_act_91 (by decide) ?_
        refine lv_ishr hx hb dL_act_93 ?_
        refine lv_iconst (v := 1) hx hb dL_act_94 (by decide) ?_
        refine lv_iand hx hb dL_act_95 ?_
        refine lv_if_ne (tgt := 105) hx hb dL_act_96 (by decide) (fun c_5 => absurd h3 c_5) (fun c_5 => ?_)
        refine lv_sipush (v := 5000) hx hb dL_act_99 (by decide) ?_
        refine lv_goto (tgt := 108) hx hb dL_act_102 (by decide) ?_
        refine rdS (As := [.int (lSh v 9), .int 5000]) (rest := [.int 1]) ⟨hx, hb, hml, hown, hts⟩ (c_L_low l D z q (lSh v 9) 5000 (by decide)) (va_cwS 2 hts gL_act_L_low rfl rfl rfl hd_L_low ⟨Nat.le_of_ble_eq_true rfl, Nat.le_of_ble_eq_true rfl⟩) hE hS hA hP [] rfl rfl hl.1 rfl (Nat.le_of_ble_eq_true rfl) dL_act_108 ⟨(by show 0 + 0 ≤ 6; omega), (by show 0 + 0 ≤ 36; omega)⟩ ?_
        refine lv_iadd hx hb dL_act_111 ?_
        refine lv_istore (lv' := [(5, .int ((1 : Int32) + (lLow (lSh v 9) 5000))), (4, .int (lLow (lSh v 6) 6)), (3, .int (lLow v 36)), (2, .int 0), (0, .ref (aa 0)), (1, .int v)]) hx hb dL_act_112 hl (by decide) rfl (fun ls hl => ?_)
        exact T p l e s m below meth c D z q aa A H [] ⟨hx, hb, hr, hml, hts, hown, hlocks, hE, hA, hlt⟩ hP hD hS ls (lv_sub hl [3, 2, 1, 0, 4, 5] rfl)
      · refine ⟨0, lLow v 36, lLow (lSh v 6) 6, (1 : Int32) + (lLow (lSh v 9) 250), fun S S9 a T l D z q aa sz hlt => ?_⟩
        refine WR_mk (Qc := fun A => QW D (coW z aa S9) A (some (.int a))) (cc := cL_act) (maxL := 7) (ret := (some .int)) (by decide) rfl (Nat.le_of_ble_eq_true rfl) ?_
        intro p e s m below meth c A hx hb hr hml hts hown hlocks hin0 H hP hD hE hS hA ls hl
        have hown : s.vm.findClass RL = some m.cls := hown
        have hl : lv_has ls 7 [(0, .ref (aa 0)), (1, .int v)] := hl
        refine lv_iload_n hx hb dL_act_0 rfl (lv_at hl 1 rfl) ?_
        refine lv_bipush (v := 24) hx hb dL_act_1 (by decide) ?_
        refine lv_ishr hx hb dL_act_3 ?_
        refine lv_bipush (v := 8) hx hb dL_act_4 (by decide) ?_
        refine rdS (As := [.int (lSh v 24), .int 8]) (rest := []) ⟨hx, hb, hml, hown, hts⟩ (c_L_low l D z q (lSh v 24) 8 (by decide)) (va_cwS 2 hts gL_act_L_low rfl rfl rfl hd_L_low ⟨Nat.le_of_ble_eq_true rfl, Nat.le_of_ble_eq_true rfl⟩) hE hS hA hP [] rfl rfl hl.1 rfl (Nat.le_of_ble_eq_true rfl) dL_act_6 ⟨(by show 0 + 0 ≤ 6; omega), (by show 0 + 0 ≤ 36; omega)⟩ ?_
        refine lv_if_ne (tgt := 16) hx hb dL_act_9 (by decide) (fun c_1 => ?_) (fun c_1 => absurd c_1 h1)
        refine lv_iconst (v := 0) hx hb dL_act_16 (by decide) ?_
        refine lv_istore_n (lv' := [(2, .int 0), (0, .ref (aa 0)), (1, .int v)]) hx hb dL_act_17 rfl hl (by decide) rfl (fun ls hl => ?_)
        refine lv_iload_n hx hb dL_act_18 rfl (lv_at hl 2 rfl) ?_
        refine lv_bipush (v := 36) hx hb dL_act_19 (by decide) ?_
        refine rdS (As := [.int v, .int 36]) (rest := []) ⟨hx, hb, hml, hown, hts⟩ (c_L_low l D z q v 36 (by decide)) (va_cwS 2 hts gL_act_L_low rfl rfl rfl hd_L_low ⟨Nat.le_of_ble_eq_true rfl, Nat.le_of_ble_eq_true rfl⟩) hE hS hA hP [] rfl rfl hl.1 rfl (Nat.le_of_ble_eq_true rfl) dL_act_21 ⟨(by show 0 + 0 ≤ 6; omega), (by show 0 + 0 ≤ 36; omega)⟩ ?_
        refine lv_istore_n (lv' := [(3, .int (lLow v 36)), (2, .int 0), (0, .ref (aa 0)), (1, .int v)]) hx hb dL_act_24 rfl hl (by decide) rfl (fun ls hl => ?_)
        refine lv_iload_n hx hb dL_act_25 rfl (lv_at hl 1 rfl) ?_
        refine lv_if_eq (tgt := 43) hx hb dL_act_26 (by decide) (fun _ => ?_) (fun c_2 => absurd (by decide) c_2)
        refine lv_iload_n hx hb dL_act_43 rfl (lv_at hl 3 rfl) ?_
        refine lv_bipush (v := 6) hx hb dL_act_44 (by decide) ?_
        refine lv_ishr hx hb dL_act_46 ?_
        refine lv_iload_n hx hb dL_act_47 rfl (lv_at hl 3 rfl) ?_
        refine lv_bipush (v := 18) hx hb dL_act_48 (by decide) ?_
        refine lv_ishr hx hb dL_act_50 ?_
        refine lv_iconst (v := 3) hx hb dL_act_51 (by decide) ?_
        refine lv_iand hx hb dL_act_52 ?_
        refine lv_if_ne (tgt := 61) hx hb dL_act_53 (by decide) (fun c_3 => ?_) (fun c_3 => absurd c_3 h2)
        refine lv_bipush (v := 6) hx hb dL_act_61 (by decide) ?_
        refine rdS (As := [.int (lSh v 6), .int 6]) (rest := []) ⟨hx, hb, hml, hown, hts⟩ (c_L_low l D z q (lSh v 6) 6 (by decide)) (va_cwS 2 hts gL_act_L_low rfl rfl rfl hd_L_low ⟨Nat.le_of_ble_eq_true rfl, Nat.le_of_ble_eq_true rfl⟩) hE hS hA hP [] rfl rfl hl.1 rfl (Nat.le_of_ble_eq_true rfl) dL_act_63 ⟨(by show 0 + 0 ≤ 6; omega), (by show 0 + 0 ≤ 36; omega)⟩ ?_
        refine lv_istore (lv' := [(4, .int (lLow (lSh v 6) 6)), (3, .int (lLow v 36)), (2, .int 0), (0, .ref (aa 0)), (1, .int v)]) hx hb dL_act_66 hl (by decide) rfl (fun ls hl => ?_)
        refine lv_iload_n hx hb dL_act_68 rfl (lv_at hl 2 rfl) ?_
        refine lv_if_eq (tgt := 85) hx hb dL_act_69 (by decide) (fun _ => ?_) (fun c_4 => absurd (by decide) c_4)
        refine lv_iconst (v := 1) hx hb dL_act_85 (by decide) ?_
        refine lv_iload_n hx hb dL_act_86 rfl (lv_at hl 4 rfl) ?_
        refine lv_bipush (v := 9) hx hb dL_act_87 (by decide) ?_
        refine lv_ishr hx hb dL_act_89 ?_
        refine lv_iload_n hx hb dL_act_90 rfl (lv_at hl 4 rfl) ?_
        refine lv_bipush (v := 19) hx hb dL_act_91 (by decide) ?_
        refine lv_ishr hx hb dL_act_93 ?_
        refine lv_iconst (v := 1) hx hb dL_act_94 (by decide) ?_
        refine lv_iand hx hb dL_act_95 ?_
        refine lv_if_ne (tgt := 105) hx hb dL_act_96 (by decide) (fun c_5 => ?_) (fun c_5 => absurd c_5 h3)
        refine lv_sipush (v := 250) hx hb dL_act_105 (by decide) ?_
        refine rdS (As := [.int (lSh v 9), .int 250]) (rest := [.int 1]) ⟨hx, hb, hml, hown, hts⟩ (c_L_low l D z q (lSh v 9) 250 (by decide)) (va_cwS 2 hts gL_act_L_low rfl rfl rfl hd_L_low ⟨Nat.le_of_ble_eq_true rfl, Nat.le_of_ble_eq_true rfl⟩) hE hS hA hP [] rfl rfl hl.1 rfl (Nat.le_of_ble_eq_true rfl) dL_act_108 ⟨(by show 0 + 0 ≤ 6; omega), (by show 0 + 0 ≤ 36; omega)⟩ ?_
        refine lv_iadd hx hb dL_act_111 ?_
        refine lv_istore (lv' := [(5, .int ((1 : Int32) + (lLow (lSh v 9) 250))), (4, .int (lLow (lSh v 6) 6)), (3, .int (lLow v 36)), (2, .int 0), (0, .ref (aa 0)), (1, .int v)]) hx hb dL_act_112 hl (by decide) rfl (fun ls hl => ?_)
        exact T p l e s m below meth c D z q aa A H [] ⟨hx, hb, hr, hml, hts, hown, hlocks, hE, hA, hlt⟩ hP hD hS ls (lv_sub hl [3, 2, 1, 0, 4, 5] rfl)
