/-! ===== the law: its points, one after another ===== -/
theorem rm_eq {k d r : Nat} (hk : k < 2 ^ 31) (h0 : 0 < d) (hd : d < 2 ^ 31) (hr : r < 2 ^ 31) (h : nI k - nI k / nI d * nI d = nI r) : k % d = r := by
  rw [pk_rem hk h0 hd] at h
  exact nI_inj (by have := Nat.mod_lt k h0; omega) hr h
section HNR
variable {p : Program} {l : Launch} {e : Env} {R : Room} {s : State} {m : MethodId} {args : Array Value} {below : List Frame} {meth : Method} {c : Code} {H : Heap} {locs : List Loc} {cells slots : Nat} {Q : State → Prop}
variable {D : va_G} {z : Nat → ClassId} {q : Nat → Nat} {A : Nat → Prop} {cc bytes : ByteArray} {pc nL maxL index n : Nat} {ls : Array Slot} {Ts ws : List Cond} {own : String} {y : MethodName} {ret : Option FieldType} {rm : Room} {As rest st : List Value}
theorem hnR {wc wx : va_W} {x : Int32} {mc ms : Nat} (S : CallFix p m c cc nL s args Ts own) (hM : HN l y ws rm D z q As wc H.size wc (some (.int x)) mc ms) (cw : CallB R s args own index y bytes maxL ret ws rm mc ms n ∧ (Cond.static y).before args s = true)
    (hE : EV D z q A s s.heap) (hS : va_S A s.heap H locs) (hA : ∀ x : Nat, s.heap.size ≤ x → A x) (hP : va_P D vwCl wx H) (hD : va_D A wx) (is : List Nat) (hs : is.map (fun i => wx[i]?) = wc.map some) (hnd : va_nd is = true)
    (hn : As.length = n) (hsz : ls.size = nL) (hst : st = As.reverse ++ rest) (hW : (rest.map fun v => v.category).sum ≤ 8) (hdg : decode cc pc = .ok (.invokestatic index, 3)) (hf : cells + mc ≤ R.cells ∧ slots + ms ≤ R.slots)
    (kk : ∀ (H1 : Heap) (locs1 : List Loc), va_P D vwCl wx H1 → va_D A wx → va_S A s.heap H1 locs1 → W p l e R s m args below meth c H1 locs1 (cells + mc) (slots + ms) Q (F0 m (pc + 3) ls (.int x :: rest))) : W p l e R s m args below meth c H locs cells slots Q (F0 m pc ls st) := by
  refine hnS S hM cw hE hS hA hP hD is hs hnd (by have := congrArg List.length hs; simpa using this.symm) hn hsz hst hW hdg hf (fun H1 locs1 g1 g2 g3 => ?_)
  rw [mxA_same hs] at g1 g2
  exact kk H1 locs1 g1 g2 g3
end HNR
/-- what the law's body stands on -/
def LG (p : Program) (l : Launch) (s : State) (m : MethodId) (meth : Method) (c : Code) (D : va_G) (z : Nat → ClassId) (q : Nat → Nat) (b L : Nat) (xs : Nat → Int32) : Prop :=
  p.tables.exec = Jvm.exec ∧ c.code = code ∧ c.maxLocals = 6 ∧ s.vm.findClass RL = some m.cls ∧ (∀ w ∈ wsL_law, w.before #[Value.ref b] s = true) ∧ va_X b L xs s s.heap ∧ b < s.heap.size ∧ EV D z q (fun x : Nat => s.heap.size ≤ x) s s.heap ∧ l.stackTraces = false ∧ L ≤ 260 ∧ meth.sig.returnType = ret ∧ meth.locks = false
/-- a point of the law's body: both coaches at S -/
def LWP (p : Program) (l : Launch) (e : Env) (s : State) (m : MethodId) (below : List Frame) (meth : Method) (c : Code) (D : va_G) (z : Nat → ClassId) (aa bb : Nat → Nat) (b N cc ss pc : Nat) (loc : List (Nat × Value)) : Prop :=
  ∀ (S : Co) (H : Heap) (locs : List Loc), CIN N S → va_P D vwCl (co2 z aa bb S S) H → va_D (fun x : Nat => s.heap.size ≤ x) (co2 z aa bb S S) → va_S (fun x : Nat => s.heap.size ≤ x) s.heap H locs →
    ∀ ls : Array Slot, lv_has ls 6 loc → W p l e room_1 s m #[Value.ref b] below meth c H locs cc ss (lw_Z below #[Value.ref b] s) (F0 m pc ls [])
set_option maxHeartbeats 4000000 in
set_option maxRecDepth 100000 in
theorem law_18 {p : Program} {l : Launch} {e : Env} {s : State} {m : MethodId} {below : List Frame} {meth : Method} {c : Code} {D : va_G} {z : Nat → ClassId} {q aa bb : Nat → Nat} {b L : Nat} {xs : Nat → Int32} {N k : Nat} (G : LG p l s m meth c D z q b L xs) (hk : k < 120) (hN : N < 400) (next : ∀ v : Int32, LWP p l e s m below meth c D z aa bb b (N + 1) (100 + 12 * (k + 1) + 1200 * ((k + 2) / 6) + 900 * ((k + 2) / 5) + 700 * ((k + 2) / 4) + 6700 * ((k + 9) / 30) + 90 * ((k + 1) / 7)) (3000 + 72 * (k + 1) + 7200 * ((k + 2) / 6) + 5400 * ((k + 2) / 5) + 4200 * ((k + 2) / 4) + 40200 * ((k + 9) / 30) + 540 * ((k + 1) / 7)) 69 [(0, .ref b), (1, .ref (aa 0)), (2, .ref (bb 0)), (3, .int (nI k)), (4, .int v)]) : LWP p l e s m below meth c D z aa bb b (N) (100 + 12 * (k + 0) + 1200 * ((k + 2) / 6) + 900 * ((k + 2) / 5) + 700 * ((k + 2) / 4) + 6700 * ((k + 9) / 30) + 90 * ((k + 1) / 7)) (3000 + 72 * (k + 0) + 7200 * ((k + 2) / 6) + 5400 * ((k + 2) / 5) + 4200 * ((k + 2) / 4) + 40200 * ((k + 9) / 30) + 540 * ((k + 1) / 7)) 18 [(0, .ref b), (1, .ref (aa 0)), (2, .ref (bb 0)), (3, .int (nI k))] := by
  obtain ⟨hx, hb, hml, hown, hts, hX, hbl, hE, hlt, hL, hr, hlocks⟩ := G
  have hbA : ¬ (fun x : Nat => s.heap.size ≤ x) b := Nat.not_le_of_lt hbl
  have hA : ∀ x : Nat, s.heap.size ≤ x → (fun x : Nat => s.heap.size ≤ x) x := fun _ h => h
  intro S H locs hI hP hD hS ls hl
  refine lv_iload_n hx hb dL_law_18 rfl (lv_at hl 3 rfl) ?_
  refine lv_bipush (v := 120) hx hb dL_law_19 (by decide) ?_
  refine lv_icmp_ge (tgt := 178) hx hb dL_law_21 (by decide) (fun c_1 => absurd (jge (a := 120) (by omega) (by omega) c_1) (by omega)) (fun _ => ?_)
  refine lv_aload_n hx hb dL_law_24 rfl (lv_at hl 0 rfl) ?_
  refine lv_iload_n hx hb dL_law_25 rfl (lv_at hl 3 rfl) ?_
  refine lv_bipush (v := 61) hx hb dL_law_26 (by decide) ?_
  refine lv_irem hx hb dL_law_28 (by decide) ?_
  rw [show nI k - nI k / 61 * 61 = nI (k % 61) from pk_rem (d := 61) (by omega) (by omega) (by omega)]
  refine cellS ⟨hx, hb, hml, hown, hts⟩ (va_cwS 2 hts gL_law_L_cell rfl rfl rfl hd_L_cell ⟨Nat.le_of_ble_eq_true rfl, Nat.le_of_ble_eq_true rfl⟩) hX hbl hbA hS (by omega) (by omega) hl.1 (Nat.le_of_ble_eq_true rfl) dL_law_29 ⟨(by show 100 + 12 * (k + 0) + 1200 * ((k + 2) / 6) + 900 * ((k + 2) / 5) + 700 * ((k + 2) / 4) + 6700 * ((k + 9) / 30) + 90 * ((k + 1) / 7) + 0 ≤ 600130; omega), (by show 3000 + 72 * (k + 0) + 7200 * ((k + 2) / 6) + 5400 * ((k + 2) / 5) + 4200 * ((k + 2) / 4) + 40200 * ((k + 9) / 30) + 540 * ((k + 1) / 7) + 0 ≤ 7301080; omega)⟩ ?_
  refine lv_sipush (v := 1097) hx hb dL_law_32 (by decide) ?_
  refine lv_iload_n hx hb dL_law_35 rfl (lv_at hl 3 rfl) ?_
  refine lv_bipush (v := 61) hx hb dL_law_36 (by decide) ?_
  refine lv_idiv hx hb dL_law_38 (by decide) ?_
  refine lv_imul hx hb dL_law_39 ?_
  refine lv_iadd hx hb dL_law_40 ?_
  obtain ⟨v, hv⟩ : ∃ v : Int32, v = lCell L xs (k % 61) + 1097 * (nI k / 61) := ⟨_, rfl⟩
  rw [← hv]
  refine lv_istore (lv' := [(4, .int v), (0, .ref b), (1, .ref (aa 0)), (2, .ref (bb 0)), (3, .int (nI k))]) hx hb dL_law_41 hl (by decide) rfl (fun ls hl => ?_)
  obtain ⟨S9, a, hI9, hn9, hact⟩ := act_ex S hI (by omega) v
  refine lv_aload_n hx hb dL_law_43 rfl (lv_at hl 2 rfl) ?_
  refine lv_iload hx hb dL_law_44 (lv_at hl 0 rfl) ?_
  refine hnS (As := [.ref (aa 0), .int v]) (rest := []) ⟨hx, hb, hml, hown, hts⟩ (hact l D z q aa H.size hlt) (va_cwS 2 hts gL_law_L_act rfl rfl rfl hd_L_act ⟨Nat.le_of_ble_eq_true rfl, Nat.le_of_ble_eq_true rfl⟩) hE hS hA hP hD [0, 1, 2, 3, 4, 5, 6, 7, 8, 9, 10, 11, 12, 13, 14, 15, 16, 17, 18, 19, 20, 21, 22, 23, 24, 25, 26, 27, 28] rfl rfl rfl rfl hl.1 rfl (Nat.le_of_ble_eq_true rfl) dL_law_46 ⟨(by show 100 + 12 * (k + 0) + 1200 * ((k + 2) / 6) + 900 * ((k + 2) / 5) + 700 * ((k + 2) / 4) + 6700 * ((k + 9) / 30) + 90 * ((k + 1) / 7) + 6 ≤ 600130; omega), (by show 3000 + 72 * (k + 0) + 7200 * ((k + 2) / 6) + 5400 * ((k + 2) / 5) + 4200 * ((k + 2) / 4) + 40200 * ((k + 9) / 30) + 540 * ((k + 1) / 7) + 36 ≤ 7301080; omega)⟩ (fun H locs hP hD hS => ?_)
  have hP : va_P D vwCl (co2 z aa bb S9 S) H := hP
  have hD : va_D (fun x : Nat => s.heap.size ≤ x) (co2 z aa bb S9 S) := hD
  refine lv_istore (lv' := [(5, .int a), (4, .int v), (0, .ref b), (1, .ref (aa 0)), (2, .ref (bb 0)), (3, .int (nI k))]) hx hb dL_law_49 hl (by decide) rfl (fun ls hl => ?_)
  refine lv_iload hx hb dL_law_51 (lv_at hl 0 rfl) ?_
  refine lv_ldc (v := (-99999)) hx hb hown (hts (.constant RL 40 (-99999)) (List.mem_of_getElem? (i := 3) rfl)) dL_law_53 ?_
  refine lv_icmp_eq (tgt := 69) hx hb dL_law_55 (by decide) (fun c_2 => ?_) (fun c_2 => ?_)
  · have e9 := hn9 c_2
    subst e9
    exact W.widen (by omega) (by omega) (next v _ H locs hI9 hP hD hS ls (lv_sub hl [2, 3, 4, 5, 1] rfl))
  · refine lv_aload_n hx hb dL_law_58 rfl (lv_at hl 4 rfl) ?_
    refine lv_iload hx hb dL_law_59 (lv_at hl 1 rfl) ?_
    refine hnS (As := [.ref (bb 0), .int v]) (rest := []) ⟨hx, hb, hml, hown, hts⟩ (hact l D z q bb H.size hlt) (va_cwS 2 hts gL_law_L_act rfl rfl rfl hd_L_act ⟨Nat.le_of_ble_eq_true rfl, Nat.le_of_ble_eq_true rfl⟩) hE hS hA hP hD [29, 30, 31, 32, 33, 34, 35, 36, 37, 38, 39, 40, 41, 42, 43, 44, 45, 46, 47, 48, 49, 50, 51, 52, 53, 54, 55, 56, 57] rfl rfl rfl rfl hl.1 rfl (Nat.le_of_ble_eq_true rfl) dL_law_61 ⟨(by show 100 + 12 * (k + 0) + 1200 * ((k + 2) / 6) + 900 * ((k + 2) / 5) + 700 * ((k + 2) / 4) + 6700 * ((k + 9) / 30) + 90 * ((k + 1) / 7) + 6 + 6 ≤ 600130; omega), (by show 3000 + 72 * (k + 0) + 7200 * ((k + 2) / 6) + 5400 * ((k + 2) / 5) + 4200 * ((k + 2) / 4) + 40200 * ((k + 9) / 30) + 540 * ((k + 1) / 7) + 36 + 36 ≤ 7301080; omega)⟩ (fun H locs hP hD hS => ?_)
    have hP : va_P D vwCl (co2 z aa bb S9 S9) H := hP
    have hD : va_D (fun x : Nat => s.heap.size ≤ x) (co2 z aa bb S9 S9) := hD
    refine lv_iload hx hb dL_law_64 (lv_at hl 0 rfl) ?_
    refine lv_icmp_ne (tgt := 129) hx hb dL_law_66 (by decide) (fun c_3 => absurd rfl c_3) (fun _ => ?_)
    exact W.widen (by omega) (by omega) (next v S9 H locs hI9 hP hD hS ls (lv_sub hl [2, 3, 4, 5, 1] rfl))
set_option maxHeartbeats 4000000 in
set_option maxRecDepth 100000 in
theorem law_69 {p : Program} {l : Launch} {e : Env} {s : State} {m : MethodId} {below : List Frame} {meth : Method} {c : Code} {D : va_G} {z : Nat → ClassId} {q aa bb : Nat → Nat} {b L : Nat} {xs : Nat → Int32} {N k : Nat} {v : Int32} (G : LG p l s m meth c D z q b L xs) (hk : k < 120) (hN : N < 400) (next : LWP p l e s m below meth c D z aa bb b (N) (100 + 12 * (k + 1) + 1200 * ((k + 3) / 6) + 900 * ((k + 2) / 5) + 700 * ((k + 2) / 4) + 6700 * ((k + 9) / 30) + 90 * ((k + 1) / 7)) (3000 + 72 * (k + 1) + 7200 * ((k + 3) / 6) + 5400 * ((k + 2) / 5) + 4200 * ((k + 2) / 4) + 40200 * ((k + 9) / 30) + 540 * ((k + 1) / 7)) 85 [(0, .ref b), (1, .ref (aa 0)), (2, .ref (bb 0)), (3, .int (nI k)), (4, .int v)]) : LWP p l e s m below meth c D z aa bb b (N) (100 + 12 * (k + 1) + 1200 * ((k + 2) / 6) + 900 * ((k + 2) / 5) + 700 * ((k + 2) / 4) + 6700 * ((k + 9) / 30) + 90 * ((k + 1) / 7)) (3000 + 72 * (k + 1) + 7200 * ((k + 2) / 6) + 5400 * ((k + 2) / 5) + 4200 * ((k + 2) / 4) + 40200 * ((k + 9) / 30) + 540 * ((k + 1) / 7)) 69 [(0, .ref b), (1, .ref (aa 0)), (2, .ref (bb 0)), (3, .int (nI k)), (4, .int v)] := by
  obtain ⟨hx, hb, hml, hown, hts, hX, hbl, hE, hlt, hL, hr, hlocks⟩ := G
  have hbA : ¬ (fun x : Nat => s.heap.size ≤ x) b := Nat.not_le_of_lt hbl
  have hA : ∀ x : Nat, s.heap.size ≤ x → (fun x : Nat => s.heap.size ≤ x) x := fun _ h => h
  intro S H locs hI hP hD hS ls hl
  refine lv_iload_n hx hb dL_law_69 rfl (lv_at hl 3 rfl) ?_
  refine lv_bipush (v := 6) hx hb dL_law_70 (by decide) ?_
  refine lv_irem hx hb dL_law_72 (by decide) ?_
  refine lv_iconst (v := 3) hx hb dL_law_73 (by decide) ?_
  refine lv_icmp_ne (tgt := 85) hx hb dL_law_74 (by decide) (fun c_1 => ?_) (fun c_1 => ?_)
  · exact W.widen (by omega) (by omega) (next S H locs (hI) hP hD hS ls (lv_sub hl [0, 1, 2, 3, 4] rfl))
  · have hm : k % 6 = 3 := rm_eq (by omega) (by omega) (by omega) (by omega) c_1
    refine lv_aload_n hx hb dL_law_77 rfl (lv_at hl 1 rfl) ?_
    refine lv_aload_n hx hb dL_law_78 rfl (lv_at hl 2 rfl) ?_
    refine hnR (As := [.ref (aa 0), .ref (bb 0)]) (rest := []) ⟨hx, hb, hml, hown, hts⟩ (c_L_areAlike l D z q N aa bb S.1 S.2.1 S.2.2.1 S.2.2.2.1 S.2.2.2.2.1 S.2.2.2.2.2.1 S.2.2.2.2.2.2.1 S.2.2.2.2.2.2.2.1 S.2.2.2.2.2.2.2.2.1 S.2.2.2.2.2.2.2.2.2.1 S.2.2.2.2.2.2.2.2.2.2.1 S.2.2.2.2.2.2.2.2.2.2.2.1 S.2.2.2.2.2.2.2.2.2.2.2.2.1 S.2.2.2.2.2.2.2.2.2.2.2.2.2.1 S.2.2.2.2.2.2.2.2.2.2.2.2.2.2.1 S.2.2.2.2.2.2.2.2.2.2.2.2.2.2.2.1 S.2.2.2.2.2.2.2.2.2.2.2.2.2.2.2.2.1 S.2.2.2.2.2.2.2.2.2.2.2.2.2.2.2.2.2.1 S.2.2.2.2.2.2.2.2.2.2.2.2.2.2.2.2.2.2.1 S.2.2.2.2.2.2.2.2.2.2.2.2.2.2.2.2.2.2.2 H.size hI hN hlt) (va_cwS 2 hts gL_law_L_areAlike rfl rfl rfl hd_L_areAlike ⟨Nat.le_of_ble_eq_true rfl, Nat.le_of_ble_eq_true rfl⟩) hE hS hA hP hD [0, 1, 2, 3, 4, 5, 6, 7, 8, 9, 10, 11, 12, 13, 14, 15, 16, 17, 18, 19, 20, 21, 22, 23, 24, 25, 26, 27, 28, 29, 30, 31, 32, 33, 34, 35, 36, 37, 38, 39, 40, 41, 42, 43, 44, 45, 46, 47, 48, 49, 50, 51, 52, 53, 54, 55, 56, 57] rfl rfl rfl hl.1 rfl (Nat.le_of_ble_eq_true rfl) dL_law_79 ⟨(by show 100 + 12 * (k + 1) + 1200 * ((k + 2) / 6) + 900 * ((k + 2) / 5) + 700 * ((k + 2) / 4) + 6700 * ((k + 9) / 30) + 90 * ((k + 1) / 7) + 1200 ≤ 600130; omega), (by show 3000 + 72 * (k + 1) + 7200 * ((k + 2) / 6) + 5400 * ((k + 2) / 5) + 4200 * ((k + 2) / 4) + 40200 * ((k + 9) / 30) + 540 * ((k + 1) / 7) + 7200 ≤ 7301080; omega)⟩ (fun H locs hP hD hS => ?_)
    refine lv_if_eq (tgt := 129) hx hb dL_law_82 (by decide) (fun c_2 => absurd c_2 (by decide)) (fun _ => ?_)
    exact W.widen (by omega) (by omega) (next S H locs (hI) hP hD hS ls (lv_sub hl [0, 1, 2, 3, 4] rfl))
set_option maxHeartbeats 4000000 in
set_option maxRecDepth 100000 in
theorem law_85 {p : Program} {l : Launch} {e : Env} {s : State} {m : MethodId} {below : List Frame} {meth : Method} {c : Code} {D : va_G} {z : Nat → ClassId} {q aa bb : Nat → Nat} {b L : Nat} {xs : Nat → Int32} {N k : Nat} {v : Int32} (G : LG p l s m meth c D z q b L xs) (hk : k < 120) (hN : N < 400) (next : LWP p l e s m below meth c D z aa bb b (N) (100 + 12 * (k + 1) + 1200 * ((k + 3) / 6) + 900 * ((k + 3) / 5) + 700 * ((k + 2) / 4) + 6700 * ((k + 9) / 30) + 90 * ((k + 1) / 7)) (3000 + 72 * (k + 1) + 7200 * ((k + 3) / 6) + 5400 * ((k + 3) / 5) + 4200 * ((k + 2) / 4) + 40200 * ((k + 9) / 30) + 540 * ((k + 1) / 7)) 99 [(0, .ref b), (1, .ref (aa 0)), (2, .ref (bb 0)), (3, .int (nI k)), (4, .int v)]) : LWP p l e s m below meth c D z aa bb b (N) (100 + 12 * (k + 1) + 1200 * ((k + 3) / 6) + 900 * ((k + 2) / 5) + 700 * ((k + 2) / 4) + 6700 * ((k + 9) / 30) + 90 * ((k + 1) / 7)) (3000 + 72 * (k + 1) + 7200 * ((k + 3) / 6) + 5400 * ((k + 2) / 5) + 4200 * ((k + 2) / 4) + 40200 * ((k + 9) / 30) + 540 * ((k + 1) / 7)) 85 [(0, .ref b), (1, .ref (aa 0)), (2, .ref (bb 0)), (3, .int (nI k)), (4, .int v)] := by
  obtain ⟨hx, hb, hml, hown, hts, hX, hbl, hE, hlt, hL, hr, hlocks⟩ := G
  have hbA : ¬ (fun x : Nat => s.heap.size ≤ x) b := Nat.not_le_of_lt hbl
  have hA : ∀ x : Nat, s.heap.size ≤ x → (fun x : Nat => s.heap.size ≤ x) x := fun _ h => h
  intro S H locs hI hP hD hS ls hl
  refine lv_iload_n hx hb dL_law_85 rfl (lv_at hl 3 rfl) ?_
  refine lv_iconst (v := 5) hx hb dL_law_86 (by decide) ?_
  refine lv_irem hx hb dL_law_87 (by decide) ?_
  refine lv_iconst (v := 2) hx hb dL_law_88 (by decide) ?_
  refine lv_icmp_ne (tgt := 99) hx hb dL_law_89 (by decide) (fun c_1 => ?_) (fun c_1 => ?_)
  · exact W.widen (by omega) (by omega) (next S H locs (hI) hP hD hS ls (lv_sub hl [0, 1, 2, 3, 4] rfl))
  · have hm : k % 5 = 2 := rm_eq (by omega) (by omega) (by omega) (by omega) c_1
    refine lv_aload_n hx hb dL_law_92 rfl (lv_at hl 1 rfl) ?_
    refine hnR (As := [.ref (aa 0)]) (rest := []) ⟨hx, hb, hml, hown, hts⟩ (c_L_areFiguresSo l D z q N aa S.1 S.2.1 S.2.2.1 S.2.2.2.1 S.2.2.2.2.1 S.2.2.2.2.2.1 S.2.2.2.2.2.2.1 S.2.2.2.2.2.2.2.1 S.2.2.2.2.2.2.2.2.1 S.2.2.2.2.2.2.2.2.2.1 S.2.2.2.2.2.2.2.2.2.2.1 S.2.2.2.2.2.2.2.2.2.2.2.1 S.2.2.2.2.2.2.2.2.2.2.2.2.1 S.2.2.2.2.2.2.2.2.2.2.2.2.2.1 S.2.2.2.2.2.2.2.2.2.2.2.2.2.2.1 S.2.2.2.2.2.2.2.2.2.2.2.2.2.2.2.1 S.2.2.2.2.2.2.2.2.2.2.2.2.2.2.2.2.1 S.2.2.2.2.2.2.2.2.2.2.2.2.2.2.2.2.2.1 S.2.2.2.2.2.2.2.2.2.2.2.2.2.2.2.2.2.2.1 S.2.2.2.2.2.2.2.2.2.2.2.2.2.2.2.2.2.2.2 H.size hI hN hlt) (va_cwS 1 hts gL_law_L_areFiguresSo rfl rfl rfl hd_L_areFiguresSo ⟨Nat.le_of_ble_eq_true rfl, Nat.le_of_ble_eq_true rfl⟩) hE hS hA hP hD [0, 6, 7, 8, 9, 10, 11, 12, 13, 14, 15, 16] rfl rfl rfl hl.1 rfl (Nat.le_of_ble_eq_true rfl) dL_law_93 ⟨(by show 100 + 12 * (k + 1) + 1200 * ((k + 3) / 6) + 900 * ((k + 2) / 5) + 700 * ((k + 2) / 4) + 6700 * ((k + 9) / 30) + 90 * ((k + 1) / 7) + 900 ≤ 600130; omega), (by show 3000 + 72 * (k + 1) + 7200 * ((k + 3) / 6) + 5400 * ((k + 2) / 5) + 4200 * ((k + 2) / 4) + 40200 * ((k + 9) / 30) + 540 * ((k + 1) / 7) + 5400 ≤ 7301080; omega)⟩ (fun H locs hP hD hS => ?_)
    refine lv_if_eq (tgt := 129) hx hb dL_law_96 (by decide) (fun c_2 => absurd c_2 (by decide)) (fun _ => ?_)
    exact W.widen (by omega) (by omega) (next S H locs (hI) hP hD hS ls (lv_sub hl [0, 1, 2, 3, 4] rfl))
set_option maxHeartbeats 4000000 in
set_option maxRecDepth 100000 in
theorem law_99 {p : Program} {l : Launch} {e : Env} {s : State} {m : MethodId} {below : List Frame} {meth : Method} {c : Code} {D : va_G} {z : Nat → ClassId} {q aa bb : Nat → Nat} {b L : Nat} {xs : Nat → Int32} {N k : Nat} {v : Int32} (G : LG p l s m meth c D z q b L xs) (hk : k < 120) (hN : N < 400) (next : LWP p l e s m below meth c D z aa bb b (N) (100 + 12 * (k + 1) + 1200 * ((k + 3) / 6) + 900 * ((k + 3) / 5) + 700 * ((k + 3) / 4) + 6700 * ((k + 9) / 30) + 90 * ((k + 1) / 7)) (3000 + 72 * (k + 1) + 7200 * ((k + 3) / 6) + 5400 * ((k + 3) / 5) + 4200 * ((k + 3) / 4) + 40200 * ((k + 9) / 30) + 540 * ((k + 1) / 7)) 113 [(0, .ref b), (1, .ref (aa 0)), (2, .ref (bb 0)), (3, .int (nI k)), (4, .int v)]) : LWP p l e s m below meth c D z aa bb b (N) (100 + 12 * (k + 1) + 1200 * ((k + 3) / 6) + 900 * ((k + 3) / 5) + 700 * ((k + 2) / 4) + 6700 * ((k + 9) / 30) + 90 * ((k + 1) / 7)) (3000 + 72 * (k + 1) + 7200 * ((k + 3) / 6) + 5400 * ((k + 3) / 5) + 4200 * ((k + 2) / 4) + 40200 * ((k + 9) / 30) + 540 * ((k + 1) / 7)) 99 [(0, .ref b), (1, .ref (aa 0)), (2, .ref (bb 0)), (3, .int (nI k)), (4, .int v)] := by
  obtain ⟨hx, hb, hml, hown, hts, hX, hbl, hE, hlt, hL, hr, hlocks⟩ := G
  have hbA : ¬ (fun x : Nat => s.heap.size ≤ x) b := Nat.not_le_of_lt hbl
  have hA : ∀ x : Nat, s.heap.size ≤ x → (fun x : Nat => s.heap.size ≤ x) x := fun _ h => h
  intro S H locs hI hP hD hS ls hl
  refine lv_iload_n hx hb dL_law_99 rfl (lv_at hl 3 rfl) ?_
  refine lv_iconst (v := 4) hx hb dL_law_100 (by decide) ?_
  refine lv_irem hx hb dL_law_101 (by decide) ?_
  refine lv_iconst (v := 1) hx hb dL_law_102 (by decide) ?_
  refine lv_icmp_ne (tgt := 113) hx hb dL_law_103 (by decide) (fun c_1 => ?_) (fun c_1 => ?_)
  · exact W.widen (by omega) (by omega) (next S H locs (hI) hP hD hS ls (lv_sub hl [0, 1, 2, 3, 4] rfl))
  · have hm : k % 4 = 1 := rm_eq (by omega) (by omega) (by omega) (by omega) c_1
    refine lv_aload_n hx hb dL_law_106 rfl (lv_at hl 1 rfl) ?_
    refine hnR (As := [.ref (aa 0)]) (rest := []) ⟨hx, hb, hml, hown, hts⟩ (c_L_isLessonSo l D z q N aa S.1 S.2.1 S.2.2.1 S.2.2.2.1 S.2.2.2.2.1 S.2.2.2.2.2.1 S.2.2.2.2.2.2.1 S.2.2.2.2.2.2.2.1 S.2.2.2.2.2.2.2.2.1 S.2.2.2.2.2.2.2.2.2.1 S.2.2.2.2.2.2.2.2.2.2.1 S.2.2.2.2.2.2.2.2.2.2.2.1 S.2.2.2.2.2.2.2.2.2.2.2.2.1 S.2.2.2.2.2.2.2.2.2.2.2.2.2.1 S.2.2.2.2.2.2.2.2.2.2.2.2.2.2.1 S.2.2.2.2.2.2.2.2.2.2.2.2.2.2.2.1 S.2.2.2.2.2.2.2.2.2.2.2.2.2.2.2.2.1 S.2.2.2.2.2.2.2.2.2.2.2.2.2.2.2.2.2.1 S.2.2.2.2.2.2.2.2.2.2.2.2.2.2.2.2.2.2.1 S.2.2.2.2.2.2.2.2.2.2.2.2.2.2.2.2.2.2.2 H.size hI hN hlt) (va_cwS 1 hts gL_law_L_isLessonSo rfl rfl rfl hd_L_isLessonSo ⟨Nat.le_of_ble_eq_true rfl, Nat.le_of_ble_eq_true rfl⟩) hE hS hA hP hD [0, 17, 18, 19, 20, 21, 22, 23, 24, 25, 26, 27, 28] rfl rfl rfl hl.1 rfl (Nat.le_of_ble_eq_true rfl) dL_law_107 ⟨(by show 100 + 12 * (k + 1) + 1200 * ((k + 3) / 6) + 900 * ((k + 3) / 5) + 700 * ((k + 2) / 4) + 6700 * ((k + 9) / 30) + 90 * ((k + 1) / 7) + 700 ≤ 600130; omega), (by show 3000 + 72 * (k + 1) + 7200 * ((k + 3) / 6) + 5400 * ((k + 3) / 5) + 4200 * ((k + 2) / 4) + 40200 * ((k + 9) / 30) + 540 * ((k + 1) / 7) + 4200 ≤ 7301080; omega)⟩ (fun H locs hP hD hS => ?_)
    refine lv_if_eq (tgt := 129) hx hb dL_law_110 (by decide) (fun c_2 => absurd c_2 (by decide)) (fun _ => ?_)
    exact W.widen (by omega) (by omega) (next S H locs (hI) hP hD hS ls (lv_sub hl [0, 1, 2, 3, 4] rfl))
set_option maxHeartbeats 4000000 in
set_option maxRecDepth 100000 in
theorem law_113 {p : Program} {l : Launch} {e : Env} {s : State} {m : MethodId} {below : List Frame} {meth : Method} {c : Code} {D : va_G} {z : Nat → ClassId} {q aa bb : Nat → Nat} {b L : Nat} {xs : Nat → Int32} {N k : Nat} {v : Int32} (G : LG p l s m meth c D z q b L xs) (hk : k < 120) (hN : N < 400) (next : LWP p l e s m below meth c D z aa bb b (N) (100 + 12 * (k + 1) + 1200 * ((k + 3) / 6) + 900 * ((k + 3) / 5) + 700 * ((k + 3) / 4) + 6700 * ((k + 10) / 30) + 90 * ((k + 1) / 7)) (3000 + 72 * (k + 1) + 7200 * ((k + 3) / 6) + 5400 * ((k + 3) / 5) + 4200 * ((k + 3) / 4) + 40200 * ((k + 10) / 30) + 540 * ((k + 1) / 7)) 131 [(0, .ref b), (1, .ref (aa 0)), (2, .ref (bb 0)), (3, .int (nI k)), (4, .int v)]) : LWP p l e s m below meth c D z aa bb b (N) (100 + 12 * (k + 1) + 1200 * ((k + 3) / 6) + 900 * ((k + 3) / 5) + 700 * ((k + 3) / 4) + 6700 * ((k + 9) / 30) + 90 * ((k + 1) / 7)) (3000 + 72 * (k + 1) + 7200 * ((k + 3) / 6) + 5400 * ((k + 3) / 5) + 4200 * ((k + 3) / 4) + 40200 * ((k + 9) / 30) + 540 * ((k + 1) / 7)) 113 [(0, .ref b), (1, .ref (aa 0)), (2, .ref (bb 0)), (3, .int (nI k)), (4, .int v)] := by
  obtain ⟨hx, hb, hml, hown, hts, hX, hbl, hE, hlt, hL, hr, hlocks⟩ := G
  have hbA : ¬ (fun x : Nat => s.heap.size ≤ x) b := Nat.not_le_of_lt hbl
  have hA : ∀ x : Nat, s.heap.size ≤ x → (fun x : Nat => s.heap.size ≤ x) x := fun _ h => h
  intro S H locs hI hP hD hS ls hl
  refine lv_iload_n hx hb dL_law_113 rfl (lv_at hl 3 rfl) ?_
  refine lv_bipush (v := 30) hx hb dL_law_114 (by decide) ?_
  refine lv_irem hx hb dL_law_116 (by decide) ?_
  refine lv_bipush (v := 20) hx hb dL_law_117 (by decide) ?_
  refine lv_icmp_ne (tgt := 131) hx hb dL_law_119 (by decide) (fun c_1 => ?_) (fun c_1 => ?_)
  · exact W.widen (by omega) (by omega) (next S H locs (hI) hP hD hS ls (lv_sub hl [0, 1, 2, 3, 4] rfl))
  · have hm : k % 30 = 20 := rm_eq (by omega) (by omega) (by omega) (by omega) c_1
    refine lv_aload_n hx hb dL_law_122 rfl (lv_at hl 1 rfl) ?_
    refine hnR (As := [.ref (aa 0)]) (rest := []) ⟨hx, hb, hml, hown, hts⟩ (c_L_isBoardSo l D z q N aa S.1 S.2.1 S.2.2.1 S.2.2.2.1 S.2.2.2.2.1 S.2.2.2.2.2.1 S.2.2.2.2.2.2.1 S.2.2.2.2.2.2.2.1 S.2.2.2.2.2.2.2.2.1 S.2.2.2.2.2.2.2.2.2.1 S.2.2.2.2.2.2.2.2.2.2.1 S.2.2.2.2.2.2.2.2.2.2.2.1 S.2.2.2.2.2.2.2.2.2.2.2.2.1 S.2.2.2.2.2.2.2.2.2.2.2.2.2.1 S.2.2.2.2.2.2.2.2.2.2.2.2.2.2.1 S.2.2.2.2.2.2.2.2.2.2.2.2.2.2.2.1 S.2.2.2.2.2.2.2.2.2.2.2.2.2.2.2.2.1 S.2.2.2.2.2.2.2.2.2.2.2.2.2.2.2.2.2.1 S.2.2.2.2.2.2.2.2.2.2.2.2.2.2.2.2.2.2.1 S.2.2.2.2.2.2.2.2.2.2.2.2.2.2.2.2.2.2.2 H.size hI hN hlt) (va_cwS 1 hts gL_law_L_isBoardSo rfl rfl rfl hd_L_isBoardSo ⟨Nat.le_of_ble_eq_true rfl, Nat.le_of_ble_eq_true rfl⟩) hE hS hA hP hD [0, 1, 2, 3, 4, 5] rfl rfl rfl hl.1 rfl (Nat.le_of_ble_eq_true rfl) dL_law_123 ⟨(by show 100 + 12 * (k + 1) + 1200 * ((k + 3) / 6) + 900 * ((k + 3) / 5) + 700 * ((k + 3) / 4) + 6700 * ((k + 9) / 30) + 90 * ((k + 1) / 7) + 6700 ≤ 600130; omega), (by show 3000 + 72 * (k + 1) + 7200 * ((k + 3) / 6) + 5400 * ((k + 3) / 5) + 4200 * ((k + 3) / 4) + 40200 * ((k + 9) / 30) + 540 * ((k + 1) / 7) + 40200 ≤ 7301080; omega)⟩ (fun H locs hP hD hS => ?_)
    refine lv_if_ne (tgt := 131) hx hb dL_law_126 (by decide) (fun _ => ?_) (fun c_2 => absurd c_2 (by decide))
    exact W.widen (by omega) (by omega) (next S H locs (hI) hP hD hS ls (lv_sub hl [0, 1, 2, 3, 4] rfl))
set_option maxHeartbeats 4000000 in
set_option maxRecDepth 100000 in
theorem law_131 {p : Program} {l : Launch} {e : Env} {s : State} {m : MethodId} {below : List Frame} {meth : Method} {c : Code} {D : va_G} {z : Nat → ClassId} {q aa bb : Nat → Nat} {b L : Nat} {xs : Nat → Int32} {N k : Nat} {v : Int32} (G : LG p l s m meth c D z q b L xs) (hk : k < 120) (hN : N < 400) (next : LWP p l e s m below meth c D z aa bb b (N + 2) (100 + 12 * (k + 1) + 1200 * ((k + 3) / 6) + 900 * ((k + 3) / 5) + 700 * ((k + 3) / 4) + 6700 * ((k + 10) / 30) + 90 * ((k + 2) / 7)) (3000 + 72 * (k + 1) + 7200 * ((k + 3) / 6) + 5400 * ((k + 3) / 5) + 4200 * ((k + 3) / 4) + 40200 * ((k + 10) / 30) + 540 * ((k + 2) / 7)) 172 [(0, .ref b), (1, .ref (aa 0)), (2, .ref (bb 0)), (3, .int (nI k)), (4, .int v)]) : LWP p l e s m below meth c D z aa bb b (N) (100 + 12 * (k + 1) + 1200 * ((k + 3) / 6) + 900 * ((k + 3) / 5) + 700 * ((k + 3) / 4) + 6700 * ((k + 10) / 30) + 90 * ((k + 1) / 7)) (3000 + 72 * (k + 1) + 7200 * ((k + 3) / 6) + 5400 * ((k + 3) / 5) + 4200 * ((k + 3) / 4) + 40200 * ((k + 10) / 30) + 540 * ((k + 1) / 7)) 131 [(0, .ref b), (1, .ref (aa 0)), (2, .ref (bb 0)), (3, .int (nI k)), (4, .int v)] := by
  obtain ⟨hx, hb, hml, hown, hts, hX, hbl, hE, hlt, hL, hr, hlocks⟩ := G
  have hbA : ¬ (fun x : Nat => s.heap.size ≤ x) b := Nat.not_le_of_lt hbl
  have hA : ∀ x : Nat, s.heap.size ≤ x → (fun x : Nat => s.heap.size ≤ x) x := fun _ h => h
  intro S H locs hI hP hD hS ls hl
  refine lv_iload_n hx hb dL_law_131 rfl (lv_at hl 3 rfl) ?_
  refine lv_bipush (v := 7) hx hb dL_law_132 (by decide) ?_
  refine lv_irem hx hb dL_law_134 (by decide) ?_
  refine lv_iconst (v := 5) hx hb dL_law_135 (by decide) ?_
  refine lv_icmp_ne (tgt := 172) hx hb dL_law_136 (by decide) (fun c_1 => ?_) (fun c_1 => ?_)
  · exact W.widen (by omega) (by omega) (next S H locs (CI_mono (CI_mono hI)) hP hD hS ls (lv_sub hl [0, 1, 2, 3, 4] rfl))
  · have hm : k % 7 = 5 := rm_eq (by omega) (by omega) (by omega) (by omega) c_1
    obtain ⟨j1, hj1, e1⟩ := lLow_nI (lSh v 6) (d := 26) (by omega) (by omega)
    obtain ⟨j2, hj2, e2⟩ := lLow_nI (lSh v 8) (d := 5000) (by omega) (by omega)
    have g0 : ¬ bW (lLow (lSh v 6) 26) 0 25 = 0 := by
      rw [show lLow (lSh v 6) 26 = nI j1 from e1]; exact bW_ok (b := 25) (by omega) (by omega)
    have g1 : ¬ bW ((1 : Int32) + (lLow (lSh v 8) 5000)) 1 5000 = 0 := by
      rw [show lLow (lSh v 8) 5000 = nI j2 from e2, show (1 : Int32) + nI j2 = nI (1 + j2) from nI_add 1 j2]; exact bW_ok1 (b := 5000) (by omega) (by omega) (by omega)
    obtain ⟨S9, hI9, hst⟩ := str_ex S hI hN _ _ g0 g1
    refine lv_aload_n hx hb dL_law_139 rfl (lv_at hl 1 rfl) ?_
    refine lv_aload_n hx hb dL_law_140 rfl (lv_at hl 2 rfl) ?_
    refine lv_iload hx hb dL_law_141 (lv_at hl 4 rfl) ?_
    refine lv_bipush (v := 6) hx hb dL_law_143 (by decide) ?_
    refine lv_ishr hx hb dL_law_145 ?_
    refine lv_bipush (v := 26) hx hb dL_law_146 (by decide) ?_
    refine rdS (As := [.int (lSh v 6), .int 26]) (rest := [.ref (bb 0), .ref (aa 0)]) ⟨hx, hb, hml, hown, hts⟩ (c_L_low l D z q (lSh v 6) 26 (by decide)) (va_cwS 2 hts gL_law_L_low rfl rfl rfl hd_L_low ⟨Nat.le_of_ble_eq_true rfl, Nat.le_of_ble_eq_true rfl⟩) hE hS hA hP [] rfl rfl hl.1 rfl (Nat.le_of_ble_eq_true rfl) dL_law_148 ⟨(by show 100 + 12 * (k + 1) + 1200 * ((k + 3) / 6) + 900 * ((k + 3) / 5) + 700 * ((k + 3) / 4) + 6700 * ((k + 10) / 30) + 90 * ((k + 1) / 7) + 0 ≤ 600130; omega), (by show 3000 + 72 * (k + 1) + 7200 * ((k + 3) / 6) + 5400 * ((k + 3) / 5) + 4200 * ((k + 3) / 4) + 40200 * ((k + 10) / 30) + 540 * ((k + 1) / 7) + 0 ≤ 7301080; omega)⟩ ?_
    refine lv_iconst (v := 1) hx hb dL_law_151 (by decide) ?_
    refine lv_iload hx hb dL_law_152 (lv_at hl 4 rfl) ?_
    refine lv_bipush (v := 8) hx hb dL_law_154 (by decide) ?_
    refine lv_ishr hx hb dL_law_156 ?_
    refine lv_sipush (v := 5000) hx hb dL_law_157 (by decide) ?_
    refine rdS (As := [.int (lSh v 8), .int 5000]) (rest := [.int 1, .int (lLow (lSh v 6) 26), .ref (bb 0), .ref (aa 0)]) ⟨hx, hb, hml, hown, hts⟩ (c_L_low l D z q (lSh v 8) 5000 (by decide)) (va_cwS 2 hts gL_law_L_low rfl rfl rfl hd_L_low ⟨Nat.le_of_ble_eq_true rfl, Nat.le_of_ble_eq_true rfl⟩) hE hS hA hP [] rfl rfl hl.1 rfl (Nat.le_of_ble_eq_true rfl) dL_law_160 ⟨(by show 100 + 12 * (k + 1) + 1200 * ((k + 3) / 6) + 900 * ((k + 3) / 5) + 700 * ((k + 3) / 4) + 6700 * ((k + 10) / 30) + 90 * ((k + 1) / 7) + 0 ≤ 600130; omega), (by show 3000 + 72 * (k + 1) + 7200 * ((k + 3) / 6) + 5400 * ((k + 3) / 5) + 4200 * ((k + 3) / 4) + 40200 * ((k + 10) / 30) + 540 * ((k + 1) / 7) + 0 ≤ 7301080; omega)⟩ ?_
    refine lv_iadd hx hb dL_law_163 ?_
    refine hnS (As := [.ref (aa 0), .ref (bb 0), .int (lLow (lSh v 6) 26), .int ((1 : Int32) + (lLow (lSh v 8) 5000))]) (rest := []) ⟨hx, hb, hml, hown, hts⟩ (hst l D z q aa bb H.size hlt) (va_cwS 4 hts gL_law_L_isStrokeSo rfl rfl rfl hd_L_isStrokeSo ⟨Nat.le_of_ble_eq_true rfl, Nat.le_of_ble_eq_true rfl⟩) hE hS hA hP hD [0, 1, 2, 3, 4, 5, 6, 7, 8, 9, 10, 11, 12, 13, 14, 15, 16, 17, 18, 19, 20, 21, 22, 23, 24, 25, 26, 27, 28, 29, 30, 31, 32, 33, 34, 35, 36, 37, 38, 39, 40, 41, 42, 43, 44, 45, 46, 47, 48, 49, 50, 51, 52, 53, 54, 55, 56, 57] rfl rfl rfl rfl hl.1 rfl (Nat.le_of_ble_eq_true rfl) dL_law_164 ⟨(by show 100 + 12 * (k + 1) + 1200 * ((k + 3) / 6) + 900 * ((k + 3) / 5) + 700 * ((k + 3) / 4) + 6700 * ((k + 10) / 30) + 90 * ((k + 1) / 7) + 90 ≤ 600130; omega), (by show 3000 + 72 * (k + 1) + 7200 * ((k + 3) / 6) + 5400 * ((k + 3) / 5) + 4200 * ((k + 3) / 4) + 40200 * ((k + 10) / 30) + 540 * ((k + 1) / 7) + 540 ≤ 7301080; omega)⟩ (fun H locs hP hD hS => ?_)
    have hP : va_P D vwCl (co2 z aa bb S9 S9) H := hP
    have hD : va_D (fun x : Nat => s.heap.size ≤ x) (co2 z aa bb S9 S9) := hD
    refine lv_if_ne (tgt := 172) hx hb dL_law_167 (by decide) (fun _ => ?_) (fun c_2 => absurd c_2 (by decide))
    exact W.widen (by omega) (by omega) (next S9 H locs (hI9) hP hD hS ls (lv_sub hl [0, 1, 2, 3, 4] rfl))
set_option maxHeartbeats 4000000 in
theorem law_172 {p : Program} {l : Launch} {e : Env} {s : State} {m : MethodId} {below : List Frame} {meth : Method} {c : Code} {D : va_G} {z : Nat → ClassId} {q aa bb : Nat → Nat} {b L : Nat} {xs : Nat → Int32} {N k : Nat} {v : Int32} (G : LG p l s m meth c D z q b L xs) (hk : k < 120) (next : LWP p l e s m below meth c D z aa bb b N (100 + 12 * ((k + 1) + 0) + 1200 * (((k + 1) + 2) / 6) + 900 * (((k + 1) + 2) / 5) + 700 * (((k + 1) + 2) / 4) + 6700 * (((k + 1) + 9) / 30) + 90 * (((k + 1) + 1) / 7)) (3000 + 72 * ((k + 1) + 0) + 7200 * (((k + 1) + 2) / 6) + 5400 * (((k + 1) + 2) / 5) + 4200 * (((k + 1) + 2) / 4) + 40200 * (((k + 1) + 9) / 30) + 540 * (((k + 1) + 1) / 7)) 18 [(0, .ref b), (1, .ref (aa 0)), (2, .ref (bb 0)), (3, .int (nI (k + 1)))]) : LWP p l e s m below meth c D z aa bb b (N) (100 + 12 * (k + 1) + 1200 * ((k + 3) / 6) + 900 * ((k + 3) / 5) + 700 * ((k + 3) / 4) + 6700 * ((k + 10) / 30) + 90 * ((k + 2) / 7)) (3000 + 72 * (k + 1) + 7200 * ((k + 3) / 6) + 5400 * ((k + 3) / 5) + 4200 * ((k + 3) / 4) + 40200 * ((k + 10) / 30) + 540 * ((k + 2) / 7)) 172 [(0, .ref b), (1, .ref (aa 0)), (2, .ref (bb 0)), (3, .int (nI k)), (4, .int v)] := by
  obtain ⟨hx, hb, hml, hown, hts, hX, hbl, hE, hlt, hL, hr, hlocks⟩ := G
  have hbA : ¬ (fun x : Nat => s.heap.size ≤ x) b := Nat.not_le_of_lt hbl
  have hA : ∀ x : Nat, s.heap.size ≤ x → (fun x : Nat => s.heap.size ≤ x) x := fun _ h => h
  intro S H locs hI hP hD hS ls hl
  refine lv_iinc (v := nI (k + 1)) (lv' := [(3, .int (nI (k + 1))), (0, .ref b), (1, .ref (aa 0)), (2, .ref (bb 0)), (4, .int v)]) hx hb dL_law_172 hl (k := 3) rfl (nI_1 k) (by decide) rfl (fun ls hl => ?_)
  refine lv_goto (tgt := 18) hx hb dL_law_175 (by decide) ?_
  exact W.widen (by omega) (by omega) (next S H locs hI hP hD hS ls (lv_sub hl [1, 2, 3, 0] rfl))
set_option maxHeartbeats 4000000 in
set_option maxRecDepth 100000 in
theorem law_end {p : Program} {l : Launch} {e : Env} {s : State} {m : MethodId} {below : List Frame} {meth : Method} {c : Code} {D : va_G} {z : Nat → ClassId} {q aa bb : Nat → Nat} {b L : Nat} {xs : Nat → Int32} {N k : Nat} (G : LG p l s m meth c D z q b L xs) (hk : k = 120) (hN : N < 400) : LWP p l e s m below meth c D z aa bb b (N) (100 + 12 * (k + 0) + 1200 * ((k + 2) / 6) + 900 * ((k + 2) / 5) + 700 * ((k + 2) / 4) + 6700 * ((k + 9) / 30) + 90 * ((k + 1) / 7)) (3000 + 72 * (k + 0) + 7200 * ((k + 2) / 6) + 5400 * ((k + 2) / 5) + 4200 * ((k + 2) / 4) + 40200 * ((k + 9) / 30) + 540 * ((k + 1) / 7)) 18 [(0, .ref b), (1, .ref (aa 0)), (2, .ref (bb 0)), (3, .int (nI k))] := by
  obtain ⟨hx, hb, hml, hown, hts, hX, hbl, hE, hlt, hL, hr, hlocks⟩ := G
  have hbA : ¬ (fun x : Nat => s.heap.size ≤ x) b := Nat.not_le_of_lt hbl
  have hA : ∀ x : Nat, s.heap.size ≤ x → (fun x : Nat => s.heap.size ≤ x) x := fun _ h => h
  intro S H locs hI hP hD hS ls hl
  have hk120 : 120 ≤ nI k := by rw [hk]; decide
  refine lv_iload_n hx hb dL_law_18 rfl (lv_at hl 3 rfl) ?_
  refine lv_bipush (v := 120) hx hb dL_law_19 (by decide) ?_
  refine lv_icmp_ge (tgt := 178) hx hb dL_law_21 (by decide) (fun _ => ?_) (fun c_1 => absurd (hk120) c_1)
  refine lv_aload_n hx hb dL_law_178 rfl (lv_at hl 1 rfl) ?_
  refine lv_aload_n hx hb dL_law_179 rfl (lv_at hl 2 rfl) ?_
  refine hnR (As := [.ref (aa 0), .ref (bb 0)]) (rest := []) ⟨hx, hb, hml, hown, hts⟩ (c_L_areAlike l D z q N aa bb S.1 S.2.1 S.2.2.1 S.2.2.2.1 S.2.2.2.2.1 S.2.2.2.2.2.1 S.2.2.2.2.2.2.1 S.2.2.2.2.2.2.2.1 S.2.2.2.2.2.2.2.2.1 S.2.2.2.2.2.2.2.2.2.1 S.2.2.2.2.2.2.2.2.2.2.1 S.2.2.2.2.2.2.2.2.2.2.2.1 S.2.2.2.2.2.2.2.2.2.2.2.2.1 S.2.2.2.2.2.2.2.2.2.2.2.2.2.1 S.2.2.2.2.2.2.2.2.2.2.2.2.2.2.1 S.2.2.2.2.2.2.2.2.2.2.2.2.2.2.2.1 S.2.2.2.2.2.2.2.2.2.2.2.2.2.2.2.2.1 S.2.2.2.2.2.2.2.2.2.2.2.2.2.2.2.2.2.1 S.2.2.2.2.2.2.2.2.2.2.2.2.2.2.2.2.2.2.1 S.2.2.2.2.2.2.2.2.2.2.2.2.2.2.2.2.2.2.2 H.size hI hN hlt) (va_cwS 2 hts gL_law_L_areAlike rfl rfl rfl hd_L_areAlike ⟨Nat.le_of_ble_eq_true rfl, Nat.le_of_ble_eq_true rfl⟩) hE hS hA hP hD [0, 1, 2, 3, 4, 5, 6, 7, 8, 9, 10, 11, 12, 13, 14, 15, 16, 17, 18, 19, 20, 21, 22, 23, 24, 25, 26, 27, 28, 29, 30, 31, 32, 33, 34, 35, 36, 37, 38, 39, 40, 41, 42, 43, 44, 45, 46, 47, 48, 49, 50, 51, 52, 53, 54, 55, 56, 57] rfl rfl rfl hl.1 rfl (Nat.le_of_ble_eq_true rfl) dL_law_180 ⟨(by show 100 + 12 * (k + 0) + 1200 * ((k + 2) / 6) + 900 * ((k + 2) / 5) + 700 * ((k + 2) / 4) + 6700 * ((k + 9) / 30) + 90 * ((k + 1) / 7) + 1200 ≤ 600130; omega), (by show 3000 + 72 * (k + 0) + 7200 * ((k + 2) / 6) + 5400 * ((k + 2) / 5) + 4200 * ((k + 2) / 4) + 40200 * ((k + 9) / 30) + 540 * ((k + 1) / 7) + 7200 ≤ 7301080; omega)⟩ (fun H locs hP hD hS => ?_)
  refine lv_if_eq (tgt := 211) hx hb dL_law_183 (by decide) (fun c_2 => absurd c_2 (by decide)) (fun _ => ?_)
  refine lv_aload_n hx hb dL_law_186 rfl (lv_at hl 1 rfl) ?_
  refine hnR (As := [.ref (aa 0)]) (rest := []) ⟨hx, hb, hml, hown, hts⟩ (c_L_isBoardSo l D z q N aa S.1 S.2.1 S.2.2.1 S.2.2.2.1 S.2.2.2.2.1 S.2.2.2.2.2.1 S.2.2.2.2.2.2.1 S.2.2.2.2.2.2.2.1 S.2.2.2.2.2.2.2.2.1 S.2.2.2.2.2.2.2.2.2.1 S.2.2.2.2.2.2.2.2.2.2.1 S.2.2.2.2.2.2.2.2.2.2.2.1 S.2.2.2.2.2.2.2.2.2.2.2.2.1 S.2.2.2.2.2.2.2.2.2.2.2.2.2.1 S.2.2.2.2.2.2.2.2.2.2.2.2.2.2.1 S.2.2.2.2.2.2.2.2.2.2.2.2.2.2.2.1 S.2.2.2.2.2.2.2.2.2.2.2.2.2.2.2.2.1 S.2.2.2.2.2.2.2.2.2.2.2.2.2.2.2.2.2.1 S.2.2.2.2.2.2.2.2.2.2.2.2.2.2.2.2.2.2.1 S.2.2.2.2.2.2.2.2.2.2.2.2.2.2.2.2.2.2.2 H.size hI hN hlt) (va_cwS 1 hts gL_law_L_isBoardSo rfl rfl rfl hd_L_isBoardSo ⟨Nat.le_of_ble_eq_true rfl, Nat.le_of_ble_eq_true rfl⟩) hE hS hA hP hD [0, 1, 2, 3, 4, 5] rfl rfl rfl hl.1 rfl (Nat.le_of_ble_eq_true rfl) dL_law_187 ⟨(by show 100 + 12 * (k + 0) + 1200 * ((k + 2) / 6) + 900 * ((k + 2) / 5) + 700 * ((k + 2) / 4) + 6700 * ((k + 9) / 30) + 90 * ((k + 1) / 7) + 1200 + 6700 ≤ 600130; omega), (by show 3000 + 72 * (k + 0) + 7200 * ((k + 2) / 6) + 5400 * ((k + 2) / 5) + 4200 * ((k + 2) / 4) + 40200 * ((k + 9) / 30) + 540 * ((k + 1) / 7) + 7200 + 40200 ≤ 7301080; omega)⟩ (fun H locs hP hD hS => ?_)
  refine lv_if_eq (tgt := 211) hx hb dL_law_190 (by decide) (fun c_3 => absurd c_3 (by decide)) (fun _ => ?_)
  refine lv_aload_n hx hb dL_law_193 rfl (lv_at hl 1 rfl) ?_
  refine hnR (As := [.ref (aa 0)]) (rest := []) ⟨hx, hb, hml, hown, hts⟩ (c_L_areFiguresSo l D z q N aa S.1 S.2.1 S.2.2.1 S.2.2.2.1 S.2.2.2.2.1 S.2.2.2.2.2.1 S.2.2.2.2.2.2.1 S.2.2.2.2.2.2.2.1 S.2.2.2.2.2.2.2.2.1 S.2.2.2.2.2.2.2.2.2.1 S.2.2.2.2.2.2.2.2.2.2.1 S.2.2.2.2.2.2.2.2.2.2.2.1 S.2.2.2.2.2.2.2.2.2.2.2.2.1 S.2.2.2.2.2.2.2.2.2.2.2.2.2.1 S.2.2.2.2.2.2.2.2.2.2.2.2.2.2.1 S.2.2.2.2.2.2.2.2.2.2.2.2.2.2.2.1 S.2.2.2.2.2.2.2.2.2.2.2.2.2.2.2.2.1 S.2.2.2.2.2.2.2.2.2.2.2.2.2.2.2.2.2.1 S.2.2.2.2.2.2.2.2.2.2.2.2.2.2.2.2.2.2.1 S.2.2.2.2.2.2.2.2.2.2.2.2.2.2.2.2.2.2.2 H.size hI hN hlt) (va_cwS 1 hts gL_law_L_areFiguresSo rfl rfl rfl hd_L_areFiguresSo ⟨Nat.le_of_ble_eq_true rfl, Nat.le_of_ble_eq_true rfl⟩) hE hS hA hP hD [0, 6, 7, 8, 9, 10, 11, 12, 13, 14, 15, 16] rfl rfl rfl hl.1 rfl (Nat.le_of_ble_eq_true rfl) dL_law_194 ⟨(by show 100 + 12 * (k + 0) + 1200 * ((k + 2) / 6) + 900 * ((k + 2) / 5) + 700 * ((k + 2) / 4) + 6700 * ((k + 9) / 30) + 90 * ((k + 1) / 7) + 7900 + 900 ≤ 600130; omega), (by show 3000 + 72 * (k + 0) + 7200 * ((k + 2) / 6) + 5400 * ((k + 2) / 5) + 4200 * ((k + 2) / 4) + 40200 * ((k + 9) / 30) + 540 * ((k + 1) / 7) + 47400 + 5400 ≤ 7301080; omega)⟩ (fun H locs hP hD hS => ?_)
  refine lv_if_eq (tgt := 211) hx hb dL_law_197 (by decide) (fun c_4 => absurd c_4 (by decide)) (fun _ => ?_)
  refine lv_aload_n hx hb dL_law_200 rfl (lv_at hl 1 rfl) ?_
  refine hnR (As := [.ref (aa 0)]) (rest := []) ⟨hx, hb, hml, hown, hts⟩ (c_L_isLessonSo l D z q N aa S.1 S.2.1 S.2.2.1 S.2.2.2.1 S.2.2.2.2.1 S.2.2.2.2.2.1 S.2.2.2.2.2.2.1 S.2.2.2.2.2.2.2.1 S.2.2.2.2.2.2.2.2.1 S.2.2.2.2.2.2.2.2.2.1 S.2.2.2.2.2.2.2.2.2.2.1 S.2.2.2.2.2.2.2.2.2.2.2.1 S.2.2.2.2.2.2.2.2.2.2.2.2.1 S.2.2.2.2.2.2.2.2.2.2.2.2.2.1 S.2.2.2.2.2.2.2.2.2.2.2.2.2.2.1 S.2.2.2.2.2.2.2.2.2.2.2.2.2.2.2.1 S.2.2.2.2.2.2.2.2.2.2.2.2.2.2.2.2.1 S.2.2.2.2.2.2.2.2.2.2.2.2.2.2.2.2.2.1 S.2.2.2.2.2.2.2.2.2.2.2.2.2.2.2.2.2.2.1 S.2.2.2.2.2.2.2.2.2.2.2.2.2.2.2.2.2.2.2 H.size hI hN hlt) (va_cwS 1 hts gL_law_L_isLessonSo rfl rfl rfl hd_L_isLessonSo ⟨Nat.le_of_ble_eq_true rfl, Nat.le_of_ble_eq_true rfl⟩) hE hS hA hP hD [0, 17, 18, 19, 20, 21, 22, 23, 24, 25, 26, 27, 28] rfl rfl rfl hl.1 rfl (Nat.le_of_ble_eq_true rfl) dL_law_201 ⟨(by show 100 + 12 * (k + 0) + 1200 * ((k + 2) / 6) + 900 * ((k + 2) / 5) + 700 * ((k + 2) / 4) + 6700 * ((k + 9) / 30) + 90 * ((k + 1) / 7) + 8800 + 700 ≤ 600130; omega), (by show 3000 + 72 * (k + 0) + 7200 * ((k + 2) / 6) + 5400 * ((k + 2) / 5) + 4200 * ((k + 2) / 4) + 40200 * ((k + 9) / 30) + 540 * ((k + 1) / 7) + 52800 + 4200 ≤ 7301080; omega)⟩ (fun H locs hP hD hS => ?_)
  refine lv_if_eq (tgt := 211) hx hb dL_law_204 (by decide) (fun c_5 => absurd c_5 (by decide)) (fun _ => ?_)
  refine lv_iconst (v := 1) hx hb dL_law_207 (by decide) ?_
  refine lv_goto (tgt := 212) hx hb dL_law_208 (by decide) ?_
  refine va_forget hS.2.2 (W.widen (k := 600130) (n := 7301080) (by omega) (by omega) ?_)
  exact lw_ret hx hb hr hlocks dL_law_212
theorem law_loop {p : Program} {l : Launch} {e : Env} {s : State} {m : MethodId} {below : List Frame} {meth : Method} {c : Code} {D : va_G} {z : Nat → ClassId} {q aa bb : Nat → Nat} {b L : Nat} {xs : Nat → Int32} (G : LG p l s m meth c D z q b L xs) : ∀ n k, k + n = 120 → LWP p l e s m below meth c D z aa bb b (3 * k) (100 + 12 * (k + 0) + 1200 * ((k + 2) / 6) + 900 * ((k + 2) / 5) + 700 * ((k + 2) / 4) + 6700 * ((k + 9) / 30) + 90 * ((k + 1) / 7)) (3000 + 72 * (k + 0) + 7200 * ((k + 2) / 6) + 5400 * ((k + 2) / 5) + 4200 * ((k + 2) / 4) + 40200 * ((k + 9) / 30) + 540 * ((k + 1) / 7)) 18 [(0, .ref b), (1, .ref (aa 0)), (2, .ref (bb 0)), (3, .int (nI k))] := by
  intro n
  induction n with
  | zero => intro k hk; exact law_end G (by omega) (by omega)
  | succ n ih =>
    intro k hk
    refine law_18 G (by omega) (by omega) (fun v => law_69 G (by omega) (by omega) (law_85 G (by omega) (by omega) (law_99 G (by omega) (by omega) (law_113 G (by omega) (by omega) (law_131 G (by omega) (by omega) (law_172 G (by omega) (ih (k + 1) (by omega))))))))
