/-! ===== the law, case by case ===== -/
/-- what the law's body stands on -/
def LG (p : Program) (l : Launch) (e : Env) (s : State) (m : MethodId) (below : List Frame) (meth : Method) (c : Code) (D : va_G) (z : Nat → ClassId) (q : Nat → Nat) (b L : Nat) (xs : Nat → Int32) : Prop :=
  p.tables.exec = Jvm.exec ∧ c.code = code ∧ c.maxLocals = 7 ∧ s.vm.findClass RL = some m.cls ∧ (∀ w ∈ wsL_law, w.before #[Value.ref b] s = true) ∧ va_X b L xs s s.heap ∧ b < s.heap.size ∧ EV D z q (fun x : Nat => s.heap.size ≤ x) s s.heap ∧ l.stackTraces = false ∧ L ≤ 2048
set_option maxHeartbeats 4000000 in
set_option maxRecDepth 100000 in
theorem law_0 {p : Program} {l : Launch} {e : Env} {s : State} {m : MethodId} {below : List Frame} {meth : Method} {c : Code} {D : va_G} {z : Nat → ClassId} {q aa : Nat → Nat} {b L : Nat} {xs : Nat → Int32} {i : Nat} (G : LG p l e s m below meth c D z q b L xs) (h4 : 4 * i + 4 ≤ L) (next : LAW p l e s m below meth c D z aa b 1466 (i + 1) i) : LAW p l e s m below meth c D z aa b 168 i i := by
  obtain ⟨hx, hb, hml, hown, hts, hX, hbl, hE, hlt, hL⟩ := G
  have hi5 : i < 512 := by omega
  have hbA : ¬ (fun x : Nat => s.heap.size ≤ x) b := Nat.not_le_of_lt hbl
  have hA : ∀ x : Nat, s.heap.size ≤ x → (fun x : Nat => s.heap.size ≤ x) x := fun _ h => h
  have hK := hE.1
  intro pl lo ct ti sh pr ia lt ty kp ek ef ltM tyM kpM wt wh zz po me ml sn dy th ov H locs hI hP hD hS ls hl
  have ⟨hB, hPR, hIO, ⟨zn, hzz, hz40, hlt9, ps, hpo, hps, hty⟩, ⟨mn, hml9, hmn⟩, ⟨sk, hsn, hsk, hkp⟩⟩ := hI
  obtain ⟨v1, hv1⟩ : ∃ v, v = xs (nI (4 * i) + 1).toNatClampNeg := ⟨_, rfl⟩
  obtain ⟨v2, hv2⟩ : ∃ v, v = xs (nI (4 * i) + 2).toNatClampNeg := ⟨_, rfl⟩
  obtain ⟨v3, hv3⟩ : ∃ v, v = xs (nI (4 * i) + 3).toNatClampNeg := ⟨_, rfl⟩
  by_cases e0 : bW v1 0 25 = 0
  · refine lv_aload_n hx hb dL_law_168 rfl (lv_at hl 1 rfl) ?_
    refine lv_aload_n hx hb dL_law_169 rfl (lv_at hl 0 rfl) ?_
    refine lv_iload hx hb dL_law_170 (lv_at hl 4 rfl) ?_
    refine lv_iconst (v := 1) hx hb dL_law_172 (by decide) ?_
    refine lv_iadd hx hb dL_law_173 ?_
    refine mSld hx hb hX hbl hbA hS (show vp_in (nI (4 * i) + 1) L from in4 (k := 1) (by omega) hL) hv1 dL_law_174 ?_
    refine lv_aload_n hx hb dL_law_175 rfl (lv_at hl 0 rfl) ?_
    refine lv_iload hx hb dL_law_176 (lv_at hl 4 rfl) ?_
    refine lv_iconst (v := 2) hx hb dL_law_178 (by decide) ?_
    refine lv_iadd hx hb dL_law_179 ?_
    refine mSld hx hb hX hbl hbA hS (show vp_in (nI (4 * i) + 2) L from in4 (k := 2) (by omega) hL) hv2 dL_law_180 ?_
    refine lv_aload_n hx hb dL_law_181 rfl (lv_at hl 0 rfl) ?_
    refine lv_iload hx hb dL_law_182 (lv_at hl 4 rfl) ?_
    refine lv_iconst (v := 3) hx hb dL_law_184 (by decide) ?_
    refine lv_iadd hx hb dL_law_185 ?_
    refine mSld hx hb hX hbl hbA hS (show vp_in (nI (4 * i) + 3) L from in4 (k := 3) (by omega) hL) hv3 dL_law_186 ?_
    refine lv_aload_n hx hb dL_law_187 rfl (lv_at hl 3 rfl) ?_
    refine hwS (As := [.ref (aa 0), .int v1, .int v2, .int v3, .ref (aa 41)]) (rest := []) ⟨hx, hb, hml, hown, hts⟩ (c_L_put_0 l D z q (aa 0) (aa 1) (aa 6) (aa 15) (aa 17) (aa 22) (aa 25) (aa 27) dy (aa 2) (aa 3) (aa 4) (aa 5) pl lo v1 v2 v3 (aa 41) ov H.size e0 hlt) (vx_cwSW 5 hts gL_law_L_put rfl rfl rfl hd_L_put.2 ⟨Nat.le_of_ble_eq_true rfl, Nat.le_of_ble_eq_true rfl⟩) hE hS hA hP hD [0, 1, 2, 3, 4, 5, 41] rfl rfl rfl rfl hl.1 rfl (Nat.le_of_ble_eq_true rfl) dL_law_188 ⟨(by show 60 + 8 * i + 3 ≤ 601024; omega), (by show 4000 + 40 * i + 18 ≤ 7293034; omega)⟩ (fun H locs hP hD hS => ?_)
    have hP : va_P D vwCl (lawW z aa pl lo ct ti sh pr ia lt ty kp ek ef wt wh zz po me ml sn dy pl ct ti sh pr ia ltM tyM kpM ek ef wt wh zz po me ml sn dy th ov) H := hP
    have hD : va_D (fun x : Nat => s.heap.size ≤ x) (lawW z aa pl lo ct ti sh pr ia lt ty kp ek ef wt wh zz po me ml sn dy pl ct ti sh pr ia ltM tyM kpM ek ef wt wh zz po me ml sn dy th ov) := hD
    refine lv_istore (lv' := [(5, .int 1), (0, .ref b), (1, .ref (aa 0)), (2, .ref (aa 29)), (3, .ref (aa 41)), (4, .int (nI (4 * i)))]) hx hb dL_law_191 hl (by decide) rfl (fun ls hl => ?_)
    refine lv_aload_n hx hb dL_law_193 rfl (lv_at hl 3 rfl) ?_
    refine lv_aload_n hx hb dL_law_194 rfl (lv_at hl 1 rfl) ?_
    refine lv_iload hx hb dL_law_195 (lv_at hl 5 rfl) ?_
    refine lv_iconst (v := 1) hx hb dL_law_197 (by decide) ?_
    refine lv_iadd hx hb dL_law_198 ?_
    refine mSld hx hb hX hbl hbA hS (show vp_in (nI (4 * i) + 1) L from in4 (k := 1) (by omega) hL) hv1 dL_law_199 ?_
    refine lv_aload_n hx hb dL_law_200 rfl (lv_at hl 1 rfl) ?_
    refine lv_iload hx hb dL_law_201 (lv_at hl 5 rfl) ?_
    refine lv_iconst (v := 2) hx hb dL_law_203 (by decide) ?_
    refine lv_iadd hx hb dL_law_204 ?_
    refine mSld hx hb hX hbl hbA hS (show vp_in (nI (4 * i) + 2) L from in4 (k := 2) (by omega) hL) hv2 dL_law_205 ?_
    refine lv_aload_n hx hb dL_law_206 rfl (lv_at hl 1 rfl) ?_
    refine lv_iload hx hb dL_law_207 (lv_at hl 5 rfl) ?_
    refine lv_iconst (v := 3) hx hb dL_law_209 (by decide) ?_
    refine lv_iadd hx hb dL_law_210 ?_
    refine mSld hx hb hX hbl hbA hS (show vp_in (nI (4 * i) + 3) L from in4 (k := 3) (by omega) hL) hv3 dL_law_211 ?_
    refine wrVi (As := [.int v1, .int v2, .int v3]) (rest := []) ⟨hx, hb, hml, hown, hts⟩ (c_X7_put_b0 l D z q (aa 29) th (aa 30) (aa 31) (aa 32) (aa 33) (aa 34) (aa 35) (aa 36) (aa 37) (aa 38) (aa 39) (aa 40) pl ct ti sh ia pr ltM tyM zz po ml me ek ef wt wh sn kpM dy v1 v2 v3 H.size e0) (cwV 3 hts gL_law_X7_put rfl rfl rfl hd_X7_put ⟨Nat.le_of_ble_eq_true rfl, Nat.le_of_ble_eq_true rfl⟩) hE hS hA hP hD [29, 30, 31, 32, 33, 34, 35, 36, 37, 38, 39, 40] rfl rfl rfl rfl rfl rfl rfl hl.1 rfl (Nat.le_of_ble_eq_true rfl) dL_law_212 ⟨(by show 60 + 8 * i + 3 + 0 ≤ 601024; omega), (by show 4000 + 40 * i + 18 + 0 ≤ 7293034; omega)⟩ (fun H locs hP hD hS => ?_)
    have hP : va_P D vwCl (lawW z aa pl lo ct ti sh pr ia lt ty kp ek ef wt wh zz po me ml sn dy pl ct ti sh pr ia ltM tyM kpM ek ef wt wh zz po me ml sn dy 1 ov) H := hP
    have hD : va_D (fun x : Nat => s.heap.size ≤ x) (lawW z aa pl lo ct ti sh pr ia lt ty kp ek ef wt wh zz po me ml sn dy pl ct ti sh pr ia ltM tyM kpM ek ef wt wh zz po me ml sn dy 1 ov) := hD
    refine lv_istore (lv' := [(6, .int 0), (5, .int 1), (0, .ref b), (1, .ref (aa 0)), (2, .ref (aa 29)), (3, .ref (aa 41)), (4, .int (nI (4 * i)))]) hx hb dL_law_215 hl (by decide) rfl (fun ls hl => ?_)
    refine lv_aload_n hx hb dL_law_217 rfl (lv_at hl 4 rfl) ?_
    refine rdV (As := []) (rest := []) ⟨hx, hb, hml, hown, hts⟩ (c_X7_thrown l D z q (aa 29) 1 (aa 30) (aa 31) (aa 32) (aa 33) (aa 34) (aa 35) (aa 36) (aa 37) (aa 38) (aa 39) (aa 40) pl ct ti sh ia pr ltM tyM zz po ml me ek ef wt wh sn kpM dy) (cwV 0 hts gL_law_X7_thrown rfl rfl rfl hd_X7_thrown ⟨Nat.le_of_ble_eq_true rfl, Nat.le_of_ble_eq_true rfl⟩) hE hS hA hP [29, 30, 31, 32, 33, 34, 35, 36, 37, 38, 39, 40] rfl rfl rfl rfl rfl hl.1 rfl (Nat.le_of_ble_eq_true rfl) dL_law_218 ⟨(by show 60 + 8 * i + 3 + 0 ≤ 601024; omega), (by show 4000 + 40 * i + 18 + 0 ≤ 7293034; omega)⟩ ?_
    refine lv_iload hx hb dL_law_221 (lv_at hl 1 rfl) ?_
    refine lv_icmp_eq (tgt := 228) hx hb dL_law_223 (by decide) (fun _ => ?_) (fun c_1 => absurd (by decide) c_1)
    refine lv_iload hx hb dL_law_228 (lv_at hl 1 rfl) ?_
    refine lv_if_ne (tgt := 245) hx hb dL_law_230 (by decide) (fun _ => ?_) (fun c_2 => absurd c_2 (by decide))
    refine lv_goto (tgt := 1466) hx hb dL_law_245 (by decide) ?_
    exact W.widen (by omega) (by omega) (next pl lo ct ti sh pr ia lt ty kp ek ef ltM tyM kpM wt wh zz po me ml sn dy 1 ov H locs (INV_mono hI) hP hD hS ls (lv_sub hl [2, 3, 4, 5, 6] rfl))
  · by_cases e1 : bW v2 0 9 = 0
    · refine lv_aload_n hx hb dL_law_168 rfl (lv_at hl 1 rfl) ?_
      refine lv_aload_n hx hb dL_law_169 rfl (lv_at hl 0 rfl) ?_
      refine lv_iload hx hb dL_law_170 (lv_at hl 4 rfl) ?_
      refine lv_iconst (v := 1) hx hb dL_law_172 (by decide) ?_
      refine lv_iadd hx hb dL_law_173 ?_
      refine mSld hx hb hX hbl hbA hS (show vp_in (nI (4 * i) + 1) L from in4 (k := 1) (by omega) hL) hv1 dL_law_174 ?_
      refine lv_aload_n hx hb dL_law_175 rfl (lv_at hl 0 rfl) ?_
      refine lv_iload hx hb dL_law_176 (lv_at hl 4 rfl) ?_
      refine lv_iconst (v := 2) hx hb dL_law_178 (by decide) ?_
      refine lv_iadd hx hb dL_law_179 ?_
      refine mSld hx hb hX hbl hbA hS (show vp_in (nI (4 * i) + 2) L from in4 (k := 2) (by omega) hL) hv2 dL_law_180 ?_
      refine lv_aload_n hx hb dL_law_181 rfl (lv_at hl 0 rfl) ?_
      refine lv_iload hx hb dL_law_182 (lv_at hl 4 rfl) ?_
      refine lv_iconst (v := 3) hx hb dL_law_184 (by decide) ?_
      refine lv_iadd hx hb dL_law_185 ?_
      refine mSld hx hb hX hbl hbA hS (show vp_in (nI (4 * i) + 3) L from in4 (k := 3) (by omega) hL) hv3 dL_law_186 ?_
      refine lv_aload_n hx hb dL_law_187 rfl (lv_at hl 3 rfl) ?_
      refine hwS (As := [.ref (aa 0), .int v1, .int v2, .int v3, .ref (aa 41)]) (rest := []) ⟨hx, hb, hml, hown, hts⟩ (c_L_put_1 l D z q (aa 0) (aa 1) (aa 6) (aa 15) (aa 17) (aa 22) (aa 25) (aa 27) dy (aa 2) (aa 3) (aa 4) (aa 5) pl lo v1 v2 v3 (aa 41) ov H.size e0 e1 hlt) (vx_cwSW 5 hts gL_law_L_put rfl rfl rfl hd_L_put.2 ⟨Nat.le_of_ble_eq_true rfl, Nat.le_of_ble_eq_true rfl⟩) hE hS hA hP hD [0, 1, 2, 3, 4, 5, 41] rfl rfl rfl rfl hl.1 rfl (Nat.le_of_ble_eq_true rfl) dL_law_188 ⟨(by show 60 + 8 * i + 3 ≤ 601024; omega), (by show 4000 + 40 * i + 18 ≤ 7293034; omega)⟩ (fun H locs hP hD hS => ?_)
      have hP : va_P D vwCl (lawW z aa pl lo ct ti sh pr ia lt ty kp ek ef wt wh zz po me ml sn dy pl ct ti sh pr ia ltM tyM kpM ek ef wt wh zz po me ml sn dy th ov) H := hP
      have hD : va_D (fun x : Nat => s.heap.size ≤ x) (lawW z aa pl lo ct ti sh pr ia lt ty kp ek ef wt wh zz po me ml sn dy pl ct ti sh pr ia ltM tyM kpM ek ef wt wh zz po me ml sn dy th ov) := hD
      refine lv_istore (lv' := [(5, .int 1), (0, .ref b), (1, .ref (aa 0)), (2, .ref (aa 29)), (3, .ref (aa 41)), (4, .int (nI (4 * i)))]) hx hb dL_law_191 hl (by decide) rfl (fun ls hl => ?_)
      refine lv_aload_n hx hb dL_law_193 rfl (lv_at hl 3 rfl) ?_
      refine lv_aload_n hx hb dL_law_194 rfl (lv_at hl 1 rfl) ?_
      refine lv_iload hx hb dL_law_195 (lv_at hl 5 rfl) ?_
      refine lv_iconst (v := 1) hx hb dL_law_197 (by decide) ?_
      refine lv_iadd hx hb dL_law_198 ?_
      refine mSld hx hb hX hbl hbA hS (show vp_in (nI (4 * i) + 1) L from in4 (k := 1) (by omega) hL) hv1 dL_law_199 ?_
      refine lv_aload_n hx hb dL_law_200 rfl (lv_at hl 1 rfl) ?_
      refine lv_iload hx hb dL_law_201 (lv_at hl 5 rfl) ?_
      refine lv_iconst (v := 2) hx hb dL_law_203 (by decide) ?_
      refine lv_iadd hx hb dL_law_204 ?_
      refine mSld hx hb hX hbl hbA hS (show vp_in (nI (4 * i) + 2) L from in4 (k := 2) (by omega) hL) hv2 dL_law_205 ?_
      refine lv_aload_n hx hb dL_law_206 rfl (lv_at hl 1 rfl) ?_
      refine lv_iload hx hb dL_law_207 (lv_at hl 5 rfl) ?_
      refine lv_iconst (v := 3) hx hb dL_law_209 (by decide) ?_
      refine lv_iadd hx hb dL_law_210 ?_
      refine mSld hx hb hX hbl hbA hS (show vp_in (nI (4 * i) + 3) L from in4 (k := 3) (by omega) hL) hv3 dL_law_211 ?_
      refine wrVi (As := [.int v1, .int v2, .int v3]) (rest := []) ⟨hx, hb, hml, hown, hts⟩ (c_X7_put_b1 l D z q (aa 29) th (aa 30) (aa 31) (aa 32) (aa 33) (aa 34) (aa 35) (aa 36) (aa 37) (aa 38) (aa 39) (aa 40) pl ct ti sh ia pr ltM tyM zz po ml me ek ef wt wh sn kpM dy v1 v2 v3 H.size e0 e1) (cwV 3 hts gL_law_X7_put rfl rfl rfl hd_X7_put ⟨Nat.le_of_ble_eq_true rfl, Nat.le_of_ble_eq_true rfl⟩) hE hS hA hP hD [29, 30, 31, 32, 33, 34, 35, 36, 37, 38, 39, 40] rfl rfl rfl rfl rfl rfl rfl hl.1 rfl (Nat.le_of_ble_eq_true rfl) dL_law_212 ⟨(by show 60 + 8 * i + 3 + 0 ≤ 601024; omega), (by show 4000 + 40 * i + 18 + 0 ≤ 7293034; omega)⟩ (fun H locs hP hD hS => ?_)
      have hP : va_P D vwCl (lawW z aa pl lo ct ti sh pr ia lt ty kp ek ef wt wh zz po me ml sn dy pl ct ti sh pr ia ltM tyM kpM ek ef wt wh zz po me ml sn dy 1 ov) H := hP
      have hD : va_D (fun x : Nat => s.heap.size ≤ x) (lawW z aa pl lo ct ti sh pr ia lt ty kp ek ef wt wh zz po me ml sn dy pl ct ti sh pr ia ltM tyM kpM ek ef wt wh zz po me ml sn dy 1 ov) := hD
      refine lv_istore (lv' := [(6, .int 0), (5, .int 1), (0, .ref b), (1, .ref (aa 0)), (2, .ref (aa 29)), (3, .ref (aa 41)), (4, .int (nI (4 * i)))]) hx hb dL_law_215 hl (by decide) rfl (fun ls hl => ?_)
      refine lv_aload_n hx hb dL_law_217 rfl (lv_at hl 4 rfl) ?_
      refine rdV (As := []) (rest := []) ⟨hx, hb, hml, hown, hts⟩ (c_X7_thrown l D z q (aa 29) 1 (aa 30) (aa 31) (aa 32) (aa 33) (aa 34) (aa 35) (aa 36) (aa 37) (aa 38) (aa 39) (aa 40) pl ct ti sh ia pr ltM tyM zz po ml me ek ef wt wh sn kpM dy) (cwV 0 hts gL_law_X7_thrown rfl rfl rfl hd_X7_thrown ⟨Nat.le_of_ble_eq_true rfl, Nat.le_of_ble_eq_true rfl⟩) hE hS hA hP [29, 30, 31, 32, 33, 34, 35, 36, 37, 38, 39, 40] rfl rfl rfl rfl rfl hl.1 rfl (Nat.le_of_ble_eq_true rfl) dL_law_218 ⟨(by show 60 + 8 * i + 3 + 0 ≤ 601024; omega), (by show 4000 + 40 * i + 18 + 0 ≤ 7293034; omega)⟩ ?_
      refine lv_iload hx hb dL_law_221 (lv_at hl 1 rfl) ?_
      refine lv_icmp_eq (tgt := 228) hx hb dL_law_223 (by decide) (fun _ => ?_) (fun c_1 => absurd (by decide) c_1)
      refine lv_iload hx hb dL_law_228 (lv_at hl 1 rfl) ?_
      refine lv_if_ne (tgt := 245) hx hb dL_law_230 (by decide) (fun _ => ?_) (fun c_2 => absurd c_2 (by decide))
      refine lv_goto (tgt := 1466) hx hb dL_law_245 (by decide) ?_
      exact W.widen (by omega) (by omega) (next pl lo ct ti sh pr ia lt ty kp ek ef ltM tyM kpM wt wh zz po me ml sn dy 1 ov H locs (INV_mono hI) hP hD hS ls (lv_sub hl [2, 3, 4, 5, 6] rfl))
    · by_cases e2 : bW v3 0 2 = 0
      · refine lv_aload_n hx hb dL_law_168 rfl (lv_at hl 1 rfl) ?_
        refine lv_aload_n hx hb dL_law_169 rfl (lv_at hl 0 rfl) ?_
        refine lv_iload hx hb dL_law_170 (lv_at hl 4 rfl) ?_
        refine lv_iconst (v := 1) hx hb dL_law_172 (by decide) ?_
        refine lv_iadd hx hb dL_law_173 ?_
        refine mSld hx hb hX hbl hbA hS (show vp_in (nI (4 * i) + 1) L from in4 (k := 1) (by omega) hL) hv1 dL_law_174 ?_
        refine lv_aload_n hx hb dL_law_175 rfl (lv_at hl 0 rfl) ?_
        refine lv_iload hx hb dL_law_176 (lv_at hl 4 rfl) ?_
        refine lv_iconst (v := 2) hx hb dL_law_178 (by decide) ?_
        refine lv_iadd hx hb dL_law_179 ?_
        refine mSld hx hb hX hbl hbA hS (show vp_in (nI (4 * i) + 2) L from in4 (k := 2) (by omega) hL) hv2 dL_law_180 ?_
        refine lv_aload_n hx hb dL_law_181 rfl (lv_at hl 0 rfl) ?_
        refine lv_iload hx hb dL_law_182 (lv_at hl 4 rfl) ?_
        refine lv_iconst (v := 3) hx hb dL_law_184 (by decide) ?_
        refine lv_iadd hx hb dL_law_185 ?_
        refine mSld hx hb hX hbl hbA hS (show vp_in (nI (4 * i) + 3) L from in4 (k := 3) (by omega) hL) hv3 dL_law_186 ?_
        refine lv_aload_n hx hb dL_law_187 rfl (lv_at hl 3 rfl) ?_
        refine hwS (As := [.ref (aa 0), .int v1, .int v2, .int v3, .ref (aa 41)]) (rest := []) ⟨hx, hb, hml, hown, hts⟩ (c_L_put_2 l D z q (aa 0) (aa 1) (aa 6) (aa 15) (aa 17) (aa 22) (aa 25) (aa 27) dy (aa 2) (aa 3) (aa 4) (aa 5) pl lo v1 v2 v3 (aa 41) ov H.size e0 e1 e2 hlt) (vx_cwSW 5 hts gL_law_L_put rfl rfl rfl hd_L_put.2 ⟨Nat.le_of_ble_eq_true rfl, Nat.le_of_ble_eq_true rfl⟩) hE hS hA hP hD [0, 1, 2, 3, 4, 5, 41] rfl rfl rfl rfl hl.1 rfl (Nat.le_of_ble_eq_true rfl) dL_law_188 ⟨(by show 60 + 8 * i + 3 ≤ 601024; omega), (by show 4000 + 40 * i + 18 ≤ 7293034; omega)⟩ (fun H locs hP hD hS => ?_)
        have hP : va_P D vwCl (lawW z aa pl lo ct ti sh pr ia lt ty kp ek ef wt wh zz po me ml sn dy pl ct ti sh pr ia ltM tyM kpM ek ef wt wh zz po me ml sn dy th ov) H := hP
        have hD : va_D (fun x : Nat => s.heap.size ≤ x) (lawW z aa pl lo ct ti sh pr ia lt ty kp ek ef wt wh zz po me ml sn dy pl ct ti sh pr ia ltM tyM kpM ek ef wt wh zz po me ml sn dy th ov) := hD
        refine lv_istore (lv' := [(5, .int 1), (0, .ref b), (1, .ref (aa 0)), (2, .ref (aa 29)), (3, .ref (aa 41)), (4, .int (nI (4 * i)))]) hx hb dL_law_191 hl (by decide) rfl (fun ls hl => ?_)
        refine lv_aload_n hx hb dL_law_193 rfl (lv_at hl 3 rfl) ?_
        refine lv_aload_n hx hb dL_law_194 rfl (lv_at hl 1 rfl) ?_
        refine lv_iload hx hb dL_law_195 (lv_at hl 5 rfl) ?_
        refine lv_iconst (v := 1) hx hb dL_law_197 (by decide) ?_
        refine lv_iadd hx hb dL_law_198 ?_
        refine mSld hx hb hX hbl hbA hS (show vp_in (nI (4 * i) + 1) L from in4 (k := 1) (by omega) hL) hv1 dL_law_199 ?_
        refine lv_aload_n hx hb dL_law_200 rfl (lv_at hl 1 rfl) ?_
        refine lv_iload hx hb dL_law_201 (lv_at hl 5 rfl) ?_
        refine lv_iconst (v := 2) hx hb dL_law_203 (by decide) ?_
        refine lv_iadd hx hb dL_law_204 ?_
        refine mSld hx hb hX hbl hbA hS (show vp_in (nI (4 * i) + 2) L from in4 (k := 2) (by omega) hL) hv2 dL_law_205 ?_
        refine lv_aload_n hx hb dL_law_206 rfl (lv_at hl 1 rfl) ?_
        refine lv_iload hx hb dL_law_207 (lv_at hl 5 rfl) ?_
        refine lv_iconst (v := 3) hx hb dL_law_209 (by decide) ?_
        refine lv_iadd hx hb dL_law_210 ?_
        refine mSld hx hb hX hbl hbA hS (show vp_in (nI (4 * i) + 3) L from in4 (k := 3) (by omega) hL) hv3 dL_law_211 ?_
        refine wrVi (As := [.int v1, .int v2, .int v3]) (rest := []) ⟨hx, hb, hml, hown, hts⟩ (c_X7_put_b2 l D z q (aa 29) th (aa 30) (aa 31) (aa 32) (aa 33) (aa 34) (aa 35) (aa 36) (aa 37) (aa 38) (aa 39) (aa 40) pl ct ti sh ia pr ltM tyM zz po ml me ek ef wt wh sn kpM dy v1 v2 v3 H.size e0 e1 e2) (cwV 3 hts gL_law_X7_put rfl rfl rfl hd_X7_put ⟨Nat.le_of_ble_eq_true rfl, Nat.le_of_ble_eq_true rfl⟩) hE hS hA hP hD [29, 30, 31, 32, 33, 34, 35, 36, 37, 38, 39, 40] rfl rfl rfl rfl rfl rfl rfl hl.1 rfl (Nat.le_of_ble_eq_true rfl) dL_law_212 ⟨(by show 60 + 8 * i + 3 + 0 ≤ 601024; omega), (by show 4000 + 40 * i + 18 + 0 ≤ 7293034; omega)⟩ (fun H locs hP hD hS => ?_)
        have hP : va_P D vwCl (lawW z aa pl lo ct ti sh pr ia lt ty kp ek ef wt wh zz po me ml sn dy pl ct ti sh pr ia ltM tyM kpM ek ef wt wh zz po me ml sn dy 1 ov) H := hP
        have hD : va_D (fun x : Nat => s.heap.size ≤ x) (lawW z aa pl lo ct ti sh pr ia lt ty kp ek ef wt wh zz po me ml sn dy pl ct ti sh pr ia ltM tyM kpM ek ef wt wh zz po me ml sn dy 1 ov) := hD
        refine lv_istore (lv' := [(6, .int 0), (5, .int 1), (0, .ref b), (1, .ref (aa 0)), (2, .ref (aa 29)), (3, .ref (aa 41)), (4, .int (nI (4 * i)))]) hx hb dL_law_215 hl (by decide) rfl (fun ls hl => ?_)
        refine lv_aload_n hx hb dL_law_217 rfl (lv_at hl 4 rfl) ?_
        refine rdV (As := []) (rest := []) ⟨hx, hb, hml, hown, hts⟩ (c_X7_thrown l D z q (aa 29) 1 (aa 30) (aa 31) (aa 32) (aa 33) (aa 34) (aa 35) (aa 36) (aa 37) (aa 38) (aa 39) (aa 40) pl ct ti sh ia pr ltM tyM zz po ml me ek ef wt wh sn kpM dy) (cwV 0 hts gL_law_X7_thrown rfl rfl rfl hd_X7_thrown ⟨Nat.le_of_ble_eq_true rfl, Nat.le_of_ble_eq_true rfl⟩) hE hS hA hP [29, 30, 31, 32, 33, 34, 35, 36, 37, 38, 39, 40] rfl rfl rfl rfl rfl hl.1 rfl (Nat.le_of_ble_eq_true rfl) dL_law_218 ⟨(by show 60 + 8 * i + 3 + 0 ≤ 601024; omega), (by show 4000 + 40 * i + 18 + 0 ≤ 7293034; omega)⟩ ?_
        refine lv_iload hx hb dL_law_221 (lv_at hl 1 rfl) ?_
        refine lv_icmp_eq (tgt := 228) hx hb dL_law_223 (by decide) (fun _ => ?_) (fun c_1 => absurd (by decide) c_1)
        refine lv_iload hx hb dL_law_228 (lv_at hl 1 rfl) ?_
        refine lv_if_ne (tgt := 245) hx hb dL_law_230 (by decide) (fun _ => ?_) (fun c_2 => absurd c_2 (by decide))
        refine lv_goto (tgt := 1466) hx hb dL_law_245 (by decide) ?_
        exact W.widen (by omega) (by omega) (next pl lo ct ti sh pr ia lt ty kp ek ef ltM tyM kpM wt wh zz po me ml sn dy 1 ov H locs (INV_mono hI) hP hD hS ls (lv_sub hl [2, 3, 4, 5, 6] rfl))
      · refine lv_aload_n hx hb dL_law_168 rfl (lv_at hl 1 rfl) ?_
        refine lv_aload_n hx hb dL_law_169 rfl (lv_at hl 0 rfl) ?_
        refine lv_iload hx hb dL_law_170 (lv_at hl 4 rfl) ?_
        refine lv_iconst (v := 1) hx hb dL_law_172 (by decide) ?_
        refine lv_iadd hx hb dL_law_173 ?_
        refine mSld hx hb hX hbl hbA hS (show vp_in (nI (4 * i) + 1) L from in4 (k := 1) (by omega) hL) hv1 dL_law_174 ?_
        refine lv_aload_n hx hb dL_law_175 rfl (lv_at hl 0 rfl) ?_
        refine lv_iload hx hb dL_law_176 (lv_at hl 4 rfl) ?_
        refine lv_iconst (v := 2) hx hb dL_law_178 (by decide) ?_
        refine lv_iadd hx hb dL_law_179 ?_
        refine mSld hx hb hX hbl hbA hS (show vp_in (nI (4 * i) + 2) L from in4 (k := 2) (by omega) hL) hv2 dL_law_180 ?_
        refine lv_aload_n hx hb dL_law_181 rfl (lv_at hl 0 rfl) ?_
        refine lv_iload hx hb dL_law_182 (lv_at hl 4 rfl) ?_
        refine lv_iconst (v := 3) hx hb dL_law_184 (by decide) ?_
        refine lv_iadd hx hb dL_law_185 ?_
        refine mSld hx hb hX hbl hbA hS (show vp_in (nI (4 * i) + 3) L from in4 (k := 3) (by omega) hL) hv3 dL_law_186 ?_
        refine lv_aload_n hx hb dL_law_187 rfl (lv_at hl 3 rfl) ?_
        refine hwS (As := [.ref (aa 0), .int v1, .int v2, .int v3, .ref (aa 41)]) (rest := []) ⟨hx, hb, hml, hown, hts⟩ (c_L_put_3 l D z q (aa 0) (aa 1) (aa 6) (aa 15) (aa 17) (aa 22) (aa 25) (aa 27) dy (aa 2) (aa 3) (aa 4) (aa 5) pl lo v1 v2 v3 (aa 41) ov H.size e0 e1 e2 hlt) (vx_cwSW 5 hts gL_law_L_put rfl rfl rfl hd_L_put.2 ⟨Nat.le_of_ble_eq_true rfl, Nat.le_of_ble_eq_true rfl⟩) hE hS hA hP hD [0, 1, 2, 3, 4, 5, 41] rfl rfl rfl rfl hl.1 rfl (Nat.le_of_ble_eq_true rfl) dL_law_188 ⟨(by show 60 + 8 * i + 3 ≤ 601024; omega), (by show 4000 + 40 * i + 18 ≤ 7293034; omega)⟩ (fun H locs hP hD hS => ?_)
        have hP : va_P D vwCl (lawW z aa (bMovP pl lo v1 (v3 * 10 + v2)) (bMovL pl lo v1 (v3 * 10 + v2)) ct ti sh pr ia lt ty kp ek ef wt wh zz po me ml sn dy pl ct ti sh pr ia ltM tyM kpM ek ef wt wh zz po me ml sn dy th (vp_updL ov (0 : Int32).toNatClampNeg (cAt 30 lo (v3 * 10 + v2)).toInt64)) H := hP
        have hD : va_D (fun x : Nat => s.heap.size ≤ x) (lawW z aa (bMovP pl lo v1 (v3 * 10 + v2)) (bMovL pl lo v1 (v3 * 10 + v2)) ct ti sh pr ia lt ty kp ek ef wt wh zz po me ml sn dy pl ct ti sh pr ia ltM tyM kpM ek ef wt wh zz po me ml sn dy th (vp_updL ov (0 : Int32).toNatClampNeg (cAt 30 lo (v3 * 10 + v2)).toInt64)) := hD
        refine lv_istore (lv' := [(5, .int 0), (0, .ref b), (1, .ref (aa 0)), (2, .ref (aa 29)), (3, .ref (aa 41)), (4, .int (nI (4 * i)))]) hx hb dL_law_191 hl (by decide) rfl (fun ls hl => ?_)
        refine lv_aload_n hx hb dL_law_193 rfl (lv_at hl 3 rfl) ?_
        refine lv_aload_n hx hb dL_law_194 rfl (lv_at hl 1 rfl) ?_
        refine lv_iload hx hb dL_law_195 (lv_at hl 5 rfl) ?_
        refine lv_iconst (v := 1) hx hb dL_law_197 (by decide) ?_
        refine lv_iadd hx hb dL_law_198 ?_
        refine mSld hx hb hX hbl hbA hS (show vp_in (nI (4 * i) + 1) L from in4 (k := 1) (by omega) hL) hv1 dL_law_199 ?_
        refine lv_aload_n hx hb dL_law_200 rfl (lv_at hl 1 rfl) ?_
        refine lv_iload hx hb dL_law_201 (lv_at hl 5 rfl) ?_
        refine lv_iconst (v := 2) hx hb dL_law_203 (by decide) ?_
        refine lv_iadd hx hb dL_law_204 ?_
        refine mSld hx hb hX hbl hbA hS (show vp_in (nI (4 * i) + 2) L from in4 (k := 2) (by omega) hL) hv2 dL_law_205 ?_
        refine lv_aload_n hx hb dL_law_206 rfl (lv_at hl 1 rfl) ?_
        refine lv_iload hx hb dL_law_207 (lv_at hl 5 rfl) ?_
        refine lv_iconst (v := 3) hx hb dL_law_209 (by decide) ?_
        refine lv_iadd hx hb dL_law_210 ?_
        refine mSld hx hb hX hbl hbA hS (show vp_in (nI (4 * i) + 3) L from in4 (k := 3) (by omega) hL) hv3 dL_law_211 ?_
        refine wrVi (As := [.int v1, .int v2, .int v3]) (rest := []) ⟨hx, hb, hml, hown, hts⟩ (c_X7_put_ok l D z q (aa 29) th (aa 30) (aa 31) (aa 32) (aa 33) (aa 34) (aa 35) (aa 36) (aa 37) (aa 38) (aa 39) (aa 40) pl ct ti sh ia pr ltM tyM zz po ml me ek ef wt wh sn kpM dy v1 v2 v3 H.size e0 e1 e2) (cwV 3 hts gL_law_X7_put rfl rfl rfl hd_X7_put ⟨Nat.le_of_ble_eq_true rfl, Nat.le_of_ble_eq_true rfl⟩) hE hS hA hP hD [29, 30, 31, 32, 33, 34, 35, 36, 37, 38, 39, 40] rfl rfl rfl rfl rfl rfl rfl hl.1 rfl (Nat.le_of_ble_eq_true rfl) dL_law_212 ⟨(by show 60 + 8 * i + 3 + 0 ≤ 601024; omega), (by show 4000 + 40 * i + 18 + 0 ≤ 7293034; omega)⟩ (fun H locs hP hD hS => ?_)
        have hP : va_P D vwCl (lawW z aa (bMovP pl lo v1 (v3 * 10 + v2)) (bMovL pl lo v1 (v3 * 10 + v2)) ct ti sh pr ia lt ty kp ek ef wt wh zz po me ml sn dy (mPut pl v1 (10 * v3 + v2)) ct ti sh pr ia ltM tyM kpM ek ef wt wh zz po me ml sn dy 0 (vp_updL ov (0 : Int32).toNatClampNeg (cAt 30 lo (v3 * 10 + v2)).toInt64)) H := hP
        have hD : va_D (fun x : Nat => s.heap.size ≤ x) (lawW z aa (bMovP pl lo v1 (v3 * 10 + v2)) (bMovL pl lo v1 (v3 * 10 + v2)) ct ti sh pr ia lt ty kp ek ef wt wh zz po me ml sn dy (mPut pl v1 (10 * v3 + v2)) ct ti sh pr ia ltM tyM kpM ek ef wt wh zz po me ml sn dy 0 (vp_updL ov (0 : Int32).toNatClampNeg (cAt 30 lo (v3 * 10 + v2)).toInt64)) := hD
        refine lv_istore (lv' := [(6, .int (mLet pl (10 * v3 + v2))), (5, .int 0), (0, .ref b), (1, .ref (aa 0)), (2, .ref (aa 29)), (3, .ref (aa 41)), (4, .int (nI (4 * i)))]) hx hb dL_law_215 hl (by decide) rfl (fun ls hl => ?_)
        refine lv_aload_n hx hb dL_law_217 rfl (lv_at hl 4 rfl) ?_
        refine rdV (As := []) (rest := []) ⟨hx, hb, hml, hown, hts⟩ (c_X7_thrown l D z q (aa 29) 0 (aa 30) (aa 31) (aa 32) (aa 33) (aa 34) (aa 35) (aa 36) (aa 37) (aa 38) (aa 39) (aa 40) (mPut pl v1 (10 * v3 + v2)) ct ti sh ia pr ltM tyM zz po ml me ek ef wt wh sn kpM dy) (cwV 0 hts gL_law_X7_thrown rfl rfl rfl hd_X7_thrown ⟨Nat.le_of_ble_eq_true rfl, Nat.le_of_ble_eq_true rfl⟩) hE hS hA hP [29, 30, 31, 32, 33, 34, 35, 36, 37, 38, 39, 40] rfl rfl rfl rfl rfl hl.1 rfl (Nat.le_of_ble_eq_true rfl) dL_law_218 ⟨(by show 60 + 8 * i + 3 + 0 ≤ 601024; omega), (by show 4000 + 40 * i + 18 + 0 ≤ 7293034; omega)⟩ ?_
        refine lv_iload hx hb dL_law_221 (lv_at hl 1 rfl) ?_
        refine lv_icmp_eq (tgt := 228) hx hb dL_law_223 (by decide) (fun _ => ?_) (fun c_1 => absurd (by decide) c_1)
        refine lv_iload hx hb dL_law_228 (lv_at hl 1 rfl) ?_
        refine lv_if_ne (tgt := 245) hx hb dL_law_230 (by decide) (fun c_2 => absurd (by decide) c_2) (fun _ => ?_)
        refine lv_aload_n hx hb dL_law_233 rfl (lv_at hl 5 rfl) ?_
        refine lv_iconst (v := 0) hx hb dL_law_234 (by decide) ?_
        refine va_lald hx hb hK hP 41 2 rfl rfl in0 dL_law_235 ?_
        refine lv_iload hx hb dL_law_236 (lv_at hl 0 rfl) ?_
        refine lv_i2l (v := (mLet pl (10 * v3 + v2)).toInt64) hx hb dL_law_238 rfl ?_
        refine W.lcmp hx hb dL_law_239 ?_
        refine lv_if_eq (tgt := 245) hx hb dL_law_240 (by decide) (fun _ => ?_) (fun c_3 => absurd (lgu (congrArg Int32.toInt64 ((put_rel hB e0 e1 e2).1.symm))) c_3)
        refine lv_goto (tgt := 1466) hx hb dL_law_245 (by decide) ?_
        rw [(put_rel hB e0 e1 e2).2.1] at hP hD
        exact W.widen (by omega) (by omega) (next (bMovP pl lo v1 (v3 * 10 + v2)) (bMovL pl lo v1 (v3 * 10 + v2)) ct ti sh pr ia lt ty kp ek ef ltM tyM kpM wt wh zz po me ml sn dy 0 (vp_updL ov (0 : Int32).toNatClampNeg (cAt 30 lo (v3 * 10 + v2)).toInt64) H locs (INV_put hI (put_rel hB e0 e1 e2).2.2) hP hD hS ls (lv_sub hl [2, 3, 4, 5, 6] rfl))
set_option maxHeartbeats 4000000 in
set_option maxRecDepth 100000 in
theorem law_6 {p : Program} {l : Launch} {e : Env} {s : State} {m : MethodId} {below : List Frame} {meth : Method} {c : Code} {D : va_G} {z : Nat → ClassId} {q aa : Nat → Nat} {b L : Nat} {xs : Nat → Int32} {i : Nat} (G : LG p l e s m below meth c D z q b L xs) (h4 : 4 * i + 4 ≤ L) (next : LAW p l e s m below meth c D z aa b 1466 (i + 1) i) : LAW p l e s m below meth c D z aa b 547 i i := by
  obtain ⟨hx, hb, hml, hown, hts, hX, hbl, hE, hlt, hL⟩ := G
  have hi5 : i < 512 := by omega
  have hbA : ¬ (fun x : Nat => s.heap.size ≤ x) b := Nat.not_le_of_lt hbl
  have hA : ∀ x : Nat, s.heap.size ≤ x → (fun x : Nat => s.heap.size ≤ x) x := fun _ h => h
  have hK := hE.1
  intro pl lo ct ti sh pr ia lt ty kp ek ef ltM tyM kpM wt wh zz po me ml sn dy th ov H locs hI hP hD hS ls hl
  have ⟨hB, hPR, hIO, ⟨zn, hzz, hz40, hlt9, ps, hpo, hps, hty⟩, ⟨mn, hml9, hmn⟩, ⟨sk, hsn, hsk, hkp⟩⟩ := hI
  refine lv_aload_n hx hb dL_law_547 rfl (lv_at hl 1 rfl) ?_
  refine rdV (As := []) (rest := []) ⟨hx, hb, hml, hown, hts⟩ (c_X6_wanted l D z q (aa 0) (aa 1) (aa 6) (aa 15) (aa 17) (aa 22) (aa 25) (aa 27) dy (aa 18) (aa 19) (aa 20) (aa 21) lt ty zz po me ml) (cwV 0 hts gL_law_X6_wanted rfl rfl rfl hd_X6_wanted ⟨Nat.le_of_ble_eq_true rfl, Nat.le_of_ble_eq_true rfl⟩) hE hS hA hP [0, 17, 18, 19, 20, 21] rfl rfl rfl rfl rfl hl.1 rfl (Nat.le_of_ble_eq_true rfl) dL_law_548 ⟨(by show 60 + 8 * i + 0 ≤ 601024; omega), (by show 4000 + 40 * i + 0 ≤ 7293034; omega)⟩ ?_
  refine lv_aload_n hx hb dL_law_551 rfl (lv_at hl 2 rfl) ?_
  refine wrVi (As := []) (rest := [.int zz]) ⟨hx, hb, hml, hown, hts⟩ (c_X7_wanted l D z q (aa 29) th (aa 30) (aa 31) (aa 32) (aa 33) (aa 34) (aa 35) (aa 36) (aa 37) (aa 38) (aa 39) (aa 40) pl ct ti sh ia pr ltM tyM zz po ml me ek ef wt wh sn kpM dy H.size) (cwV 0 hts gL_law_X7_wanted rfl rfl rfl hd_X7_wanted ⟨Nat.le_of_ble_eq_true rfl, Nat.le_of_ble_eq_true rfl⟩) hE hS hA hP hD [29, 30, 31, 32, 33, 34, 35, 36, 37, 38, 39, 40] rfl rfl rfl rfl rfl rfl rfl hl.1 rfl (Nat.le_of_ble_eq_true rfl) dL_law_552 ⟨(by show 60 + 8 * i + 0 ≤ 601024; omega), (by show 4000 + 40 * i + 0 ≤ 7293034; omega)⟩ (fun H locs hP hD hS => ?_)
  have hP : va_P D vwCl (lawW z aa pl lo ct ti sh pr ia lt ty kp ek ef wt wh zz po me ml sn dy pl ct ti sh pr ia ltM tyM kpM ek ef wt wh zz po me ml sn dy 0 ov) H := hP
  have hD : va_D (fun x : Nat => s.heap.size ≤ x) (lawW z aa pl lo ct ti sh pr ia lt ty kp ek ef wt wh zz po me ml sn dy pl ct ti sh pr ia ltM tyM kpM ek ef wt wh zz po me ml sn dy 0 ov) := hD
  refine lv_icmp_eq (tgt := 1466) hx hb dL_law_555 (by decide) (fun _ => ?_) (fun c_1 => absurd (rfl) c_1)
  exact W.widen (by omega) (by omega) (next pl lo ct ti sh pr ia lt ty kp ek ef ltM tyM kpM wt wh zz po me ml sn dy 0 ov H locs (INV_mono hI) hP hD hS ls (lv_sub hl [0, 1, 2, 3, 4] rfl))
