/-! ===== cases 1 to 11 ===== -/
set_option maxHeartbeats 4000000 in
set_option maxRecDepth 100000 in
theorem law_1 {p : Program} {l : Launch} {e : Env} {s : State} {m : MethodId} {below : List Frame} {meth : Method} {c : Code} {D : va_G} {z : Nat → ClassId} {q aa : Nat → Nat} {b L : Nat} {xs : Nat → Int32} {i : Nat} (G : LG p l e s m below meth c D z q b L xs) (h4 : 4 * i + 4 ≤ L) (next : LAW p l e s m below meth c D z aa b 1466 (i + 1) i) : LAW p l e s m below meth c D z aa b 248 i i := by
  obtain ⟨hx, hb, hml, hown, hts, hX, hbl, hE, hlt, hL⟩ := G
  have hi5 : i < 512 := by omega
  have hbA : ¬ (fun x : Nat => s.heap.size ≤ x) b := Nat.not_le_of_lt hbl
  have hA : ∀ x : Nat, s.heap.size ≤ x → (fun x : Nat => s.heap.size ≤ x) x := fun _ h => h
  have hK := hE.1
  intro pl lo ct ti sh pr ia lt ty kp ek ef ltM tyM kpM wt wh zz po me ml sn dy th ov H locs hI hP hD hS ls hl
  have ⟨hB, hPR, hIO, ⟨zn, hzz, hz40, hlt9, ps, hpo, hps, hty⟩, ⟨mn, hml9, hmn⟩, ⟨sk, hsn, hsk, hkp⟩⟩ := hI
  obtain ⟨v1, hv1⟩ : ∃ v, v = xs (nI (4 * i) + 1).toNatClampNeg := ⟨_, rfl⟩
  by_cases e0 : bW v1 0 25 = 0
  · refine lv_aload_n hx hb dL_law_248 rfl (lv_at hl 1 rfl) ?_
    refine lv_aload_n hx hb dL_law_249 rfl (lv_at hl 0 rfl) ?_
    refine lv_iload hx hb dL_law_250 (lv_at hl 4 rfl) ?_
    refine lv_iconst (v := 1) hx hb dL_law_252 (by decide) ?_
    refine lv_iadd hx hb dL_law_253 ?_
    refine mSld hx hb hX hbl hbA hS (show vp_in (nI (4 * i) + 1) L from in4 (k := 1) (by omega) hL) hv1 dL_law_254 ?_
    refine lv_aload_n hx hb dL_law_255 rfl (lv_at hl 3 rfl) ?_
    refine hwS (As := [.ref (aa 0), .int v1, .ref (aa 41)]) (rest := []) ⟨hx, hb, hml, hown, hts⟩ (c_L_finger_0 l D z q (aa 0) (aa 1) (aa 6) (aa 15) (aa 17) (aa 22) (aa 25) (aa 27) dy (aa 2) (aa 3) (aa 4) (aa 5) pl lo v1 (aa 41) ov H.size e0 hlt) (vx_cwSW 3 hts gL_law_L_finger rfl rfl rfl hd_L_finger.2 ⟨Nat.le_of_ble_eq_true rfl, Nat.le_of_ble_eq_true rfl⟩) hE hS hA hP hD [0, 1, 2, 3, 4, 5, 41] rfl rfl rfl rfl hl.1 rfl (Nat.le_of_ble_eq_true rfl) dL_law_256 ⟨(by show 60 + 8 * i + 3 ≤ 601024; omega), (by show 4000 + 40 * i + 18 ≤ 7293034; omega)⟩ (fun H locs hP hD hS => ?_)
    have hP : va_P D vwCl (lawW z aa pl lo ct ti sh pr ia lt ty kp ek ef wt wh zz po me ml sn dy pl ct ti sh pr ia ltM tyM kpM ek ef wt wh zz po me ml sn dy th ov) H := hP
    have hD : va_D (fun x : Nat => s.heap.size ≤ x) (lawW z aa pl lo ct ti sh pr ia lt ty kp ek ef wt wh zz po me ml sn dy pl ct ti sh pr ia ltM tyM kpM ek ef wt wh zz po me ml sn dy th ov) := hD
    refine lv_istore (lv' := [(5, .int 1), (0, .ref b), (1, .ref (aa 0)), (2, .ref (aa 29)), (3, .ref (aa 41)), (4, .int (nI (4 * i)))]) hx hb dL_law_259 hl (by decide) rfl (fun ls hl => ?_)
    refine lv_aload_n hx hb dL_law_261 rfl (lv_at hl 3 rfl) ?_
    refine lv_aload_n hx hb dL_law_262 rfl (lv_at hl 1 rfl) ?_
    refine lv_iload hx hb dL_law_263 (lv_at hl 5 rfl) ?_
    refine lv_iconst (v := 1) hx hb dL_law_265 (by decide) ?_
    refine lv_iadd hx hb dL_law_266 ?_
    refine mSld hx hb hX hbl hbA hS (show vp_in (nI (4 * i) + 1) L from in4 (k := 1) (by omega) hL) hv1 dL_law_267 ?_
    refine wrVi (As := [.int v1]) (rest := []) ⟨hx, hb, hml, hown, hts⟩ (c_X7_finger_b0 l D z q (aa 29) th (aa 30) (aa 31) (aa 32) (aa 33) (aa 34) (aa 35) (aa 36) (aa 37) (aa 38) (aa 39) (aa 40) pl ct ti sh ia pr ltM tyM zz po ml me ek ef wt wh sn kpM dy v1 H.size e0) (cwV 1 hts gL_law_X7_finger rfl rfl rfl hd_X7_finger ⟨Nat.le_of_ble_eq_true rfl, Nat.le_of_ble_eq_true rfl⟩) hE hS hA hP hD [29, 30, 31, 32, 33, 34, 35, 36, 37, 38, 39, 40] rfl rfl rfl rfl rfl rfl rfl hl.1 rfl (Nat.le_of_ble_eq_true rfl) dL_law_268 ⟨(by show 60 + 8 * i + 3 + 0 ≤ 601024; omega), (by show 4000 + 40 * i + 18 + 0 ≤ 7293034; omega)⟩ (fun H locs hP hD hS => ?_)
    have hP : va_P D vwCl (lawW z aa pl lo ct ti sh pr ia lt ty kp ek ef wt wh zz po me ml sn dy pl ct ti sh pr ia ltM tyM kpM ek ef wt wh zz po me ml sn dy 1 ov) H := hP
    have hD : va_D (fun x : Nat => s.heap.size ≤ x) (lawW z aa pl lo ct ti sh pr ia lt ty kp ek ef wt wh zz po me ml sn dy pl ct ti sh pr ia ltM tyM kpM ek ef wt wh zz po me ml sn dy 1 ov) := hD
    refine lv_istore (lv' := [(6, .int 0), (5, .int 1), (0, .ref b), (1, .ref (aa 0)), (2, .ref (aa 29)), (3, .ref (aa 41)), (4, .int (nI (4 * i)))]) hx hb dL_law_271 hl (by decide) rfl (fun ls hl => ?_)
    refine lv_aload_n hx hb dL_law_273 rfl (lv_at hl 4 rfl) ?_
    refine rdV (As := []) (rest := []) ⟨hx, hb, hml, hown, hts⟩ (c_X7_thrown l D z q (aa 29) 1 (aa 30) (aa 31) (aa 32) (aa 33) (aa 34) (aa 35) (aa 36) (aa 37) (aa 38) (aa 39) (aa 40) pl ct ti sh ia pr ltM tyM zz po ml me ek ef wt wh sn kpM dy) (cwV 0 hts gL_law_X7_thrown rfl rfl rfl hd_X7_thrown ⟨Nat.le_of_ble_eq_true rfl, Nat.le_of_ble_eq_true rfl⟩) hE hS hA hP [29, 30, 31, 32, 33, 34, 35, 36, 37, 38, 39, 40] rfl rfl rfl rfl rfl hl.1 rfl (Nat.le_of_ble_eq_true rfl) dL_law_274 ⟨(by show 60 + 8 * i + 3 + 0 ≤ 601024; omega), (by show 4000 + 40 * i + 18 + 0 ≤ 7293034; omega)⟩ ?_
    refine lv_iload hx hb dL_law_277 (lv_at hl 1 rfl) ?_
    refine lv_icmp_eq (tgt := 284) hx hb dL_law_279 (by decide) (fun _ => ?_) (fun c_1 => absurd (by decide) c_1)
    refine lv_iload hx hb dL_law_284 (lv_at hl 1 rfl) ?_
    refine lv_if_ne (tgt := 301) hx hb dL_law_286 (by decide) (fun _ => ?_) (fun c_2 => absurd c_2 (by decide))
    refine lv_goto (tgt := 1466) hx hb dL_law_301 (by decide) ?_
    exact W.widen (by omega) (by omega) (next pl lo ct ti sh pr ia lt ty kp ek ef ltM tyM kpM wt wh zz po me ml sn dy 1 ov H locs (INV_mono hI) hP hD hS ls (lv_sub hl [2, 3, 4, 5, 6] rfl))
  · refine lv_aload_n hx hb dL_law_248 rfl (lv_at hl 1 rfl) ?_
    refine lv_aload_n hx hb dL_law_249 rfl (lv_at hl 0 rfl) ?_
    refine lv_iload hx hb dL_law_250 (lv_at hl 4 rfl) ?_
    refine lv_iconst (v := 1) hx hb dL_law_252 (by decide) ?_
    refine lv_iadd hx hb dL_law_253 ?_
    refine mSld hx hb hX hbl hbA hS (show vp_in (nI (4 * i) + 1) L from in4 (k := 1) (by omega) hL) hv1 dL_law_254 ?_
    refine lv_aload_n hx hb dL_law_255 rfl (lv_at hl 3 rfl) ?_
    refine hwS (As := [.ref (aa 0), .int v1, .ref (aa 41)]) (rest := []) ⟨hx, hb, hml, hown, hts⟩ (c_L_finger_1 l D z q (aa 0) (aa 1) (aa 6) (aa 15) (aa 17) (aa 22) (aa 25) (aa 27) dy (aa 2) (aa 3) (aa 4) (aa 5) pl lo v1 (aa 41) ov H.size e0 hlt) (vx_cwSW 3 hts gL_law_L_finger rfl rfl rfl hd_L_finger.2 ⟨Nat.le_of_ble_eq_true rfl, Nat.le_of_ble_eq_true rfl⟩) hE hS hA hP hD [0, 1, 2, 3, 4, 5, 41] rfl rfl rfl rfl hl.1 rfl (Nat.le_of_ble_eq_true rfl) dL_law_256 ⟨(by show 60 + 8 * i + 3 ≤ 601024; omega), (by show 4000 + 40 * i + 18 ≤ 7293034; omega)⟩ (fun H locs hP hD hS => ?_)
    have hP : va_P D vwCl (lawW z aa pl lo ct ti sh pr ia lt ty kp ek ef wt wh zz po me ml sn dy pl ct ti sh pr ia ltM tyM kpM ek ef wt wh zz po me ml sn dy th (vp_updL ov (0 : Int32).toNatClampNeg (bFin pl v1).toInt64)) H := hP
    have hD : va_D (fun x : Nat => s.heap.size ≤ x) (lawW z aa pl lo ct ti sh pr ia lt ty kp ek ef wt wh zz po me ml sn dy pl ct ti sh pr ia ltM tyM kpM ek ef wt wh zz po me ml sn dy th (vp_updL ov (0 : Int32).toNatClampNeg (bFin pl v1).toInt64)) := hD
    refine lv_istore (lv' := [(5, .int 0), (0, .ref b), (1, .ref (aa 0)), (2, .ref (aa 29)), (3, .ref (aa 41)), (4, .int (nI (4 * i)))]) hx hb dL_law_259 hl (by decide) rfl (fun ls hl => ?_)
    refine lv_aload_n hx hb dL_law_261 rfl (lv_at hl 3 rfl) ?_
    refine lv_aload_n hx hb dL_law_262 rfl (lv_at hl 1 rfl) ?_
    refine lv_iload hx hb dL_law_263 (lv_at hl 5 rfl) ?_
    refine lv_iconst (v := 1) hx hb dL_law_265 (by decide) ?_
    refine lv_iadd hx hb dL_law_266 ?_
    refine mSld hx hb hX hbl hbA hS (show vp_in (nI (4 * i) + 1) L from in4 (k := 1) (by omega) hL) hv1 dL_law_267 ?_
    refine wrVi (As := [.int v1]) (rest := []) ⟨hx, hb, hml, hown, hts⟩ (c_X7_finger_ok l D z q (aa 29) th (aa 30) (aa 31) (aa 32) (aa 33) (aa 34) (aa 35) (aa 36) (aa 37) (aa 38) (aa 39) (aa 40) pl ct ti sh ia pr ltM tyM zz po ml me ek ef wt wh sn kpM dy v1 H.size e0) (cwV 1 hts gL_law_X7_finger rfl rfl rfl hd_X7_finger ⟨Nat.le_of_ble_eq_true rfl, Nat.le_of_ble_eq_true rfl⟩) hE hS hA hP hD [29, 30, 31, 32, 33, 34, 35, 36, 37, 38, 39, 40] rfl rfl rfl rfl rfl rfl rfl hl.1 rfl (Nat.le_of_ble_eq_true rfl) dL_law_268 ⟨(by show 60 + 8 * i + 3 + 0 ≤ 601024; omega), (by show 4000 + 40 * i + 18 + 0 ≤ 7293034; omega)⟩ (fun H locs hP hD hS => ?_)
    have hP : va_P D vwCl (lawW z aa pl lo ct ti sh pr ia lt ty kp ek ef wt wh zz po me ml sn dy pl ct ti sh pr ia ltM tyM kpM ek ef wt wh zz po me ml sn dy 0 (vp_updL ov (0 : Int32).toNatClampNeg (bFin pl v1).toInt64)) H := hP
    have hD : va_D (fun x : Nat => s.heap.size ≤ x) (lawW z aa pl lo ct ti sh pr ia lt ty kp ek ef wt wh zz po me ml sn dy pl ct ti sh pr ia ltM tyM kpM ek ef wt wh zz po me ml sn dy 0 (vp_updL ov (0 : Int32).toNatClampNeg (bFin pl v1).toInt64)) := hD
    refine lv_istore (lv' := [(6, .int (mFin (bCol pl v1))), (5, .int 0), (0, .ref b), (1, .ref (aa 0)), (2, .ref (aa 29)), (3, .ref (aa 41)), (4, .int (nI (4 * i)))]) hx hb dL_law_271 hl (by decide) rfl (fun ls hl => ?_)
    refine lv_aload_n hx hb dL_law_273 rfl (lv_at hl 4 rfl) ?_
    refine rdV (As := []) (rest := []) ⟨hx, hb, hml, hown, hts⟩ (c_X7_thrown l D z q (aa 29) 0 (aa 30) (aa 31) (aa 32) (aa 33) (aa 34) (aa 35) (aa 36) (aa 37) (aa 38) (aa 39) (aa 40) pl ct ti sh ia pr ltM tyM zz po ml me ek ef wt wh sn kpM dy) (cwV 0 hts gL_law_X7_thrown rfl rfl rfl hd_X7_thrown ⟨Nat.le_of_ble_eq_true rfl, Nat.le_of_ble_eq_true rfl⟩) hE hS hA hP [29, 30, 31, 32, 33, 34, 35, 36, 37, 38, 39, 40] rfl rfl rfl rfl rfl hl.1 rfl (Nat.le_of_ble_eq_true rfl) dL_law_274 ⟨(by show 60 + 8 * i + 3 + 0 ≤ 601024; omega), (by show 4000 + 40 * i + 18 + 0 ≤ 7293034; omega)⟩ ?_
    refine lv_iload hx hb dL_law_277 (lv_at hl 1 rfl) ?_
    refine lv_icmp_eq (tgt := 284) hx hb dL_law_279 (by decide) (fun _ => ?_) (fun c_1 => absurd (by decide) c_1)
    refine lv_iload hx hb dL_law_284 (lv_at hl 1 rfl) ?_
    refine lv_if_ne (tgt := 301) hx hb dL_law_286 (by decide) (fun c_2 => absurd (by decide) c_2) (fun _ => ?_)
    refine lv_aload_n hx hb dL_law_289 rfl (lv_at hl 5 rfl) ?_
    refine lv_iconst (v := 0) hx hb dL_law_290 (by decide) ?_
    refine va_lald hx hb hK hP 41 2 rfl rfl in0 dL_law_291 ?_
    refine lv_iload hx hb dL_law_292 (lv_at hl 0 rfl) ?_
    refine lv_i2l (v := (mFin (bCol pl v1)).toInt64) hx hb dL_law_294 rfl ?_
    refine W.lcmp hx hb dL_law_295 ?_
    refine lv_if_eq (tgt := 301) hx hb dL_law_296 (by decide) (fun _ => ?_) (fun c_3 => absurd (lgu (congrArg Int32.toInt64 ((finger_rel hB (bW_in (n := 25) rfl (by omega) e0)).1))) c_3)
    refine lv_goto (tgt := 1466) hx hb dL_law_301 (by decide) ?_
    exact W.widen (by omega) (by omega) (next pl lo ct ti sh pr ia lt ty kp ek ef ltM tyM kpM wt wh zz po me ml sn dy 0 (vp_updL ov (0 : Int32).toNatClampNeg (bFin pl v1).toInt64) H locs (INV_mono hI) hP hD hS ls (lv_sub hl [2, 3, 4, 5, 6] rfl))
set_option maxHeartbeats 4000000 in
set_option maxRecDepth 100000 in
theorem law_2 {p : Program} {l : Launch} {e : Env} {s : State} {m : MethodId} {below : List Frame} {meth : Method} {c : Code} {D : va_G} {z : Nat → ClassId} {q aa : Nat → Nat} {b L : Nat} {xs : Nat → Int32} {i : Nat} (G : LG p l e s m below meth c D z q b L xs) (h4 : 4 * i + 4 ≤ L) (next : LAW p l e s m below meth c D z aa b 1466 (i + 1) i) : LAW p l e s m below meth c D z aa b 304 i i := by
  obtain ⟨hx, hb, hml, hown, hts, hX, hbl, hE, hlt, hL⟩ := G
  have hi5 : i < 512 := by omega
  have hbA : ¬ (fun x : Nat => s.heap.size ≤ x) b := Nat.not_le_of_lt hbl
  have hA : ∀ x : Nat, s.heap.size ≤ x → (fun x : Nat => s.heap.size ≤ x) x := fun _ h => h
  have hK := hE.1
  intro pl lo ct ti sh pr ia lt ty kp ek ef ltM tyM kpM wt wh zz po me ml sn dy th ov H locs hI hP hD hS ls hl
  have ⟨hB, hPR, hIO, ⟨zn, hzz, hz40, hlt9, ps, hpo, hps, hty⟩, ⟨mn, hml9, hmn⟩, ⟨sk, hsn, hsk, hkp⟩⟩ := hI
  obtain ⟨v1, hv1⟩ : ∃ v, v = xs (nI (4 * i) + 1).toNatClampNeg := ⟨_, rfl⟩
  obtain ⟨v2, hv2⟩ : ∃ v, v = xs (nI (4 * i) + 2).toNatClampNeg := ⟨_, rfl⟩
  by_cases e0 : bW v1 0 25 = 0
  · refine lv_aload_n hx hb dL_law_304 rfl (lv_at hl 1 rfl) ?_
    refine lv_aload_n hx hb dL_law_305 rfl (lv_at hl 0 rfl) ?_
    refine lv_iload hx hb dL_law_306 (lv_at hl 4 rfl) ?_
    refine lv_iconst (v := 1) hx hb dL_law_308 (by decide) ?_
    refine lv_iadd hx hb dL_law_309 ?_
    refine mSld hx hb hX hbl hbA hS (show vp_in (nI (4 * i) + 1) L from in4 (k := 1) (by omega) hL) hv1 dL_law_310 ?_
    refine lv_aload_n hx hb dL_law_311 rfl (lv_at hl 0 rfl) ?_
    refine lv_iload hx hb dL_law_312 (lv_at hl 4 rfl) ?_
    refine lv_iconst (v := 2) hx hb dL_law_314 (by decide) ?_
    refine lv_iadd hx hb dL_law_315 ?_
    refine mSld hx hb hX hbl hbA hS (show vp_in (nI (4 * i) + 2) L from in4 (k := 2) (by omega) hL) hv2 dL_law_316 ?_
    refine lv_aload_n hx hb dL_law_317 rfl (lv_at hl 3 rfl) ?_
    refine hwS (As := [.ref (aa 0), .int v1, .int v2, .ref (aa 41)]) (rest := []) ⟨hx, hb, hml, hown, hts⟩ (c_L_areBeside_0 l D z q (aa 0) (aa 1) (aa 6) (aa 15) (aa 17) (aa 22) (aa 25) (aa 27) dy (aa 2) (aa 3) (aa 4) (aa 5) pl lo v1 v2 (aa 41) ov H.size e0 hlt) (vx_cwSW 4 hts gL_law_L_areBeside rfl rfl rfl hd_L_areBeside.2 ⟨Nat.le_of_ble_eq_true rfl, Nat.le_of_ble_eq_true rfl⟩) hE hS hA hP hD [0, 1, 2, 3, 4, 5, 41] rfl rfl rfl rfl hl.1 rfl (Nat.le_of_ble_eq_true rfl) dL_law_318 ⟨(by show 60 + 8 * i + 3 ≤ 601024; omega), (by show 4000 + 40 * i + 18 ≤ 7293034; omega)⟩ (fun H locs hP hD hS => ?_)
    have hP : va_P D vwCl (lawW z aa pl lo ct ti sh pr ia lt ty kp ek ef wt wh zz po me ml sn dy pl ct ti sh pr ia ltM tyM kpM ek ef wt wh zz po me ml sn dy th ov) H := hP
    have hD : va_D (fun x : Nat => s.heap.size ≤ x) (lawW z aa pl lo ct ti sh pr ia lt ty kp ek ef wt wh zz po me ml sn dy pl ct ti sh pr ia ltM tyM kpM ek ef wt wh zz po me ml sn dy th ov) := hD
    refine lv_istore (lv' := [(5, .int 1), (0, .ref b), (1, .ref (aa 0)), (2, .ref (aa 29)), (3, .ref (aa 41)), (4, .int (nI (4 * i)))]) hx hb dL_law_321 hl (by decide) rfl (fun ls hl => ?_)
    refine lv_aload_n hx hb dL_law_323 rfl (lv_at hl 3 rfl) ?_
    refine lv_aload_n hx hb dL_law_324 rfl (lv_at hl 1 rfl) ?_
    refine lv_iload hx hb dL_law_325 (lv_at hl 5 rfl) ?_
    refine lv_iconst (v := 1) hx hb dL_law_327 (by decide) ?_
    refine lv_iadd hx hb dL_law_328 ?_
    refine mSld hx hb hX hbl hbA hS (show vp_in (nI (4 * i) + 1) L from in4 (k := 1) (by omega) hL) hv1 dL_law_329 ?_
    refine lv_aload_n hx hb dL_law_330 rfl (lv_at hl 1 rfl) ?_
    refine lv_iload hx hb dL_law_331 (lv_at hl 5 rfl) ?_
    refine lv_iconst (v := 2) hx hb dL_law_333 (by decide) ?_
    refine lv_iadd hx hb dL_law_334 ?_
    refine mSld hx hb hX hbl hbA hS (show vp_in (nI (4 * i) + 2) L from in4 (k := 2) (by omega) hL) hv2 dL_law_335 ?_
    refine wrVi (As := [.int v1, .int v2]) (rest := []) ⟨hx, hb, hml, hown, hts⟩ (c_X7_areBeside_b0 l D z q (aa 29) th (aa 30) (aa 31) (aa 32) (aa 33) (aa 34) (aa 35) (aa 36) (aa 37) (aa 38) (aa 39) (aa 40) pl ct ti sh ia pr ltM tyM zz po ml me ek ef wt wh sn kpM dy v1 v2 H.size e0) (cwV 2 hts gL_law_X7_areBeside rfl rfl rfl hd_X7_areBeside ⟨Nat.le_of_ble_eq_true rfl, Nat.le_of_ble_eq_true rfl⟩) hE hS hA hP hD [29, 30, 31, 32, 33, 34, 35, 36, 37, 38, 39, 40] rfl rfl rfl rfl rfl rfl rfl hl.1 rfl (Nat.le_of_ble_eq_true rfl) dL_law_336 ⟨(by show 60 + 8 * i + 3 + 0 ≤ 601024; omega), (by show 4000 + 40 * i + 18 + 0 ≤ 7293034; omega)⟩ (fun H locs hP hD hS => ?_)
    have hP : va_P D vwCl (lawW z aa pl lo ct ti sh pr ia lt ty kp ek ef wt wh zz po me ml sn dy pl ct ti sh pr ia ltM tyM kpM ek ef wt wh zz po me ml sn dy 1 ov) H := hP
    have hD : va_D (fun x : Nat => s.heap.size ≤ x) (lawW z aa pl lo ct ti sh pr ia lt ty kp ek ef wt wh zz po me ml sn dy pl ct ti sh pr ia ltM tyM kpM ek ef wt wh zz po me ml sn dy 1 ov) := hD
    refine lv_istore (lv' := [(6, .int 0), (5, .int 1), (0, .ref b), (1, .ref (aa 0)), (2, .ref (aa 29)), (3, .ref (aa 41)), (4, .int (nI (4 * i)))]) hx hb dL_law_339 hl (by decide) rfl (fun ls hl => ?_)
    refine lv_aload_n hx hb dL_law_341 rfl (lv_at hl 4 rfl) ?_
    refine rdV (As := []) (rest := []) ⟨hx, hb, hml, hown, hts⟩ (c_X7_thrown l D z q (aa 29) 1 (aa 30) (aa 31) (aa 32) (aa 33) (aa 34) (aa 35) (aa 36) (aa 37) (aa 38) (aa 39) (aa 40) pl ct ti sh ia pr ltM tyM zz po ml me ek ef wt wh sn kpM dy) (cwV 0 hts gL_law_X7_thrown rfl rfl rfl hd_X7_thrown ⟨Nat.le_of_ble_eq_true rfl, Nat.le_of_ble_eq_true rfl⟩) hE hS hA hP [29, 30, 31, 32, 33, 34, 35, 36, 37, 38, 39, 40] rfl rfl rfl rfl rfl hl.1 rfl (Nat.le_of_ble_eq_true rfl) dL_law_342 ⟨(by show 60 + 8 * i + 3 + 0 ≤ 601024; omega), (by show 4000 + 40 * i + 18 + 0 ≤ 7293034; omega)⟩ ?_
    refine lv_iload hx hb dL_law_345 (lv_at hl 1 rfl) ?_
    refine lv_icmp_eq (tgt := 352) hx hb dL_law_347 (by decide) (fun _ => ?_) (fun c_1 => absurd (by decide) c_1)
    refine lv_iload hx hb dL_law_352 (lv_at hl 1 rfl) ?_
    refine lv_if_ne (tgt := 376) hx hb dL_law_354 (by decide) (fun _ => ?_) (fun c_2 => absurd c_2 (by decide))
    refine lv_goto (tgt := 1466) hx hb dL_law_376 (by decide) ?_
    exact W.widen (by omega) (by omega) (next pl lo ct ti sh pr ia lt ty kp ek ef ltM tyM kpM wt wh zz po me ml sn dy 1 ov H locs (INV_mono hI) hP hD hS ls (lv_sub hl [2, 3, 4, 5, 6] rfl))
  · by_cases e1 : bW v2 0 25 = 0
    · refine lv_aload_n hx hb dL_law_304 rfl (lv_at hl 1 rfl) ?_
      refine lv_aload_n hx hb dL_law_305 rfl (lv_at hl 0 rfl) ?_
      refine lv_iload hx hb dL_law_306 (lv_at hl 4 rfl) ?_
      refine lv_iconst (v := 1) hx hb dL_law_308 (by decide) ?_
      refine lv_iadd hx hb dL_law_309 ?_
      refine mSld hx hb hX hbl hbA hS (show vp_in (nI (4 * i) + 1) L from in4 (k := 1) (by omega) hL) hv1 dL_law_310 ?_
      refine lv_aload_n hx hb dL_law_311 rfl (lv_at hl 0 rfl) ?_
      refine lv_iload hx hb dL_law_312 (lv_at hl 4 rfl) ?_
      refine lv_iconst (v := 2) hx hb dL_law_314 (by decide) ?_
      refine lv_iadd hx hb dL_law_315 ?_
      refine mSld hx hb hX hbl hbA hS (show vp_in (nI (4 * i) + 2) L from in4 (k := 2) (by omega) hL) hv2 dL_law_316 ?_
      refine lv_aload_n hx hb dL_law_317 rfl (lv_at hl 3 rfl) ?_
      refine hwS (As := [.ref (aa 0), .int v1, .int v2, .ref (aa 41)]) (rest := []) ⟨hx, hb, hml, hown, hts⟩ (c_L_areBeside_1 l D z q (aa 0) (aa 1) (aa 6) (aa 15) (aa 17) (aa 22) (aa 25) (aa 27) dy (aa 2) (aa 3) (aa 4) (aa 5) pl lo v1 v2 (aa 41) ov H.size e0 e1 hlt) (vx_cwSW 4 hts gL_law_L_areBeside rfl rfl rfl hd_L_areBeside.2 ⟨Nat.le_of_ble_eq_true rfl, Nat.le_of_ble_eq_true rfl⟩) hE hS hA hP hD [0, 1, 2, 3, 4, 5, 41] rfl rfl rfl rfl hl.1 rfl (Nat.le_of_ble_eq_true rfl) dL_law_318 ⟨(by show 60 + 8 * i + 3 ≤ 601024; omega), (by show 4000 + 40 * i + 18 ≤ 7293034; omega)⟩ (fun H locs hP hD hS => ?_)
      have hP : va_P D vwCl (lawW z aa pl lo ct ti sh pr ia lt ty kp ek ef wt wh zz po me ml sn dy pl ct ti sh pr ia ltM tyM kpM ek ef wt wh zz po me ml sn dy th ov) H := hP
      have hD : va_D (fun x : Nat => s.heap.size ≤ x) (lawW z aa pl lo ct ti sh pr ia lt ty kp ek ef wt wh zz po me ml sn dy pl ct ti sh pr ia ltM tyM kpM ek ef wt wh zz po me ml sn dy th ov) := hD
      refine lv_istore (lv' := [(5, .int 1), (0, .ref b), (1, .ref (aa 0)), (2, .ref (aa 29)), (3, .ref (aa 41)), (4, .int (nI (4 * i)))]) hx hb dL_law_321 hl (by decide) rfl (fun ls hl => ?_)
      refine lv_aload_n hx hb dL_law_323 rfl (lv_at hl 3 rfl) ?_
      refine lv_aload_n hx hb dL_law_324 rfl (lv_at hl 1 rfl) ?_
      refine lv_iload hx hb dL_law_325 (lv_at hl 5 rfl) ?_
      refine lv_iconst (v := 1) hx hb dL_law_327 (by decide) ?_
      refine lv_iadd hx hb dL_law_328 ?_
      refine mSld hx hb hX hbl hbA hS (show vp_in (nI (4 * i) + 1) L from in4 (k := 1) (by omega) hL) hv1 dL_law_329 ?_
      refine lv_aload_n hx hb dL_law_330 rfl (lv_at hl 1 rfl) ?_
      refine lv_iload hx hb dL_law_331 (lv_at hl 5 rfl) ?_
      refine lv_iconst (v := 2) hx hb dL_law_333 (by decide) ?_
      refine lv_iadd hx hb dL_law_334 ?_
      refine mSld hx hb hX hbl hbA hS (show vp_in (nI (4 * i) + 2) L from in4 (k := 2) (by omega) hL) hv2 dL_law_335 ?_
      refine wrVi (As := [.int v1, .int v2]) (rest := []) ⟨hx, hb, hml, hown, hts⟩ (c_X7_areBeside_b1 l D z q (aa 29) th (aa 30) (aa 31) (aa 32) (aa 33) (aa 34) (aa 35) (aa 36) (aa 37) (aa 38) (aa 39) (aa 40) pl ct ti sh ia pr ltM tyM zz po ml me ek ef wt wh sn kpM dy v1 v2 H.size e0 e1) (cwV 2 hts gL_law_X7_areBeside rfl rfl rfl hd_X7_areBeside ⟨Nat.le_of_ble_eq_true rfl, Nat.le_of_ble_eq_true rfl⟩) hE hS hA hP hD [29, 30, 31, 32, 33, 34, 35, 36, 37, 38, 39, 40] rfl rfl rfl rfl rfl rfl rfl hl.1 rfl (Nat.le_of_ble_eq_true rfl) dL_law_336 ⟨(by show 60 + 8 * i + 3 + 0 ≤ 601024; omega), (by show 4000 + 40 * i + 18 + 0 ≤ 7293034; omega)⟩ (fun H locs hP hD hS => ?_)
      have hP : va_P D vwCl (lawW z aa pl lo ct ti sh pr ia lt ty kp ek ef wt wh zz po me ml sn dy pl ct ti sh pr ia ltM tyM kpM ek ef wt wh zz po me ml sn dy 1 ov) H := hP
      have hD : va_D (fun x : Nat => s.heap.size ≤ x) (lawW z aa pl lo ct ti sh pr ia lt ty kp ek ef wt wh zz po me ml sn dy pl ct ti sh pr ia ltM tyM kpM ek ef wt wh zz po me ml sn dy 1 ov) := hD
      refine lv_istore (lv' := [(6, .int 0), (5, .int 1), (0, .ref b), (1, .ref (aa 0)), (2, .ref (aa 29)), (3, .ref (aa 41)), (4, .int (nI (4 * i)))]) hx hb dL_law_339 hl (by decide) rfl (fun ls hl => ?_)
      refine lv_aload_n hx hb dL_law_341 rfl (lv_at hl 4 rfl) ?_
      refine rdV (As := []) (rest := []) ⟨hx, hb, hml, hown, hts⟩ (c_X7_thrown l D z q (aa 29) 1 (aa 30) (aa 31) (aa 32) (aa 33) (aa 34) (aa 35) (aa 36) (aa 37) (aa 38) (aa 39) (aa 40) pl ct ti sh ia pr ltM tyM zz po ml me ek ef wt wh sn kpM dy) (cwV 0 hts gL_law_X7_thrown rfl rfl rfl hd_X7_thrown ⟨Nat.le_of_ble_eq_true rfl, Nat.le_of_ble_eq_true rfl⟩) hE hS hA hP [29, 30, 31, 32, 33, 34, 35, 36, 37, 38, 39, 40] rfl rfl rfl rfl rfl hl.1 rfl (Nat.le_of_ble_eq_true rfl) dL_law_342 ⟨(by show 60 + 8 * i + 3 + 0 ≤ 601024; omega), (by show 4000 + 40 * i + 18 + 0 ≤ 7293034; omega)⟩ ?_
      refine lv_iload hx hb dL_law_345 (lv_at hl 1 rfl) ?_
      refine lv_icmp_eq (tgt := 352) hx hb dL_law_347 (by decide) (fun _ => ?_) (fun c_1 => absurd (by decide) c_1)
      refine lv_iload hx hb dL_law_352 (lv_at hl 1 rfl) ?_
      refine lv_if_ne (tgt := 376) hx hb dL_law_354 (by decide) (fun _ => ?_) (fun c_2 => absurd c_2 (by decide))
      refine lv_goto (tgt := 1466) hx hb dL_law_376 (by decide) ?_
      exact W.widen (by omega) (by omega) (next pl lo ct ti sh pr ia lt ty kp ek ef ltM tyM kpM wt wh zz po me ml sn dy 1 ov H locs (INV_mono hI) hP hD hS ls (lv_sub hl [2, 3, 4, 5, 6] rfl))
    · refine lv_aload_n hx hb dL_law_304 rfl (lv_at hl 1 rfl) ?_
      refine lv_aload_n hx hb dL_law_305 rfl (lv_at hl 0 rfl) ?_
      refine lv_iload hx hb dL_law_306 (lv_at hl 4 rfl) ?_
      refine lv_iconst (v := 1) hx hb dL_law_308 (by decide) ?_
      refine lv_iadd hx hb dL_law_309 ?_
      refine mSld hx hb hX hbl hbA hS (show vp_in (nI (4 * i) + 1) L from in4 (k := 1) (by omega) hL) hv1 dL_law_310 ?_
      refine lv_aload_n hx hb dL_law_311 rfl (lv_at hl 0 rfl) ?_
      refine lv_iload hx hb dL_law_312 (lv_at hl 4 rfl) ?_
      refine lv_iconst (v := 2) hx hb dL_law_314 (by decide) ?_
      refine lv_iadd hx hb dL_law_315 ?_
      refine mSld hx hb hX hbl hbA hS (show vp_in (nI (4 * i) + 2) L from in4 (k := 2) (by omega) hL) hv2 dL_law_316 ?_
      refine lv_aload_n hx hb dL_law_317 rfl (lv_at hl 3 rfl) ?_
      refine hwS (As := [.ref (aa 0), .int v1, .int v2, .ref (aa 41)]) (rest := []) ⟨hx, hb, hml, hown, hts⟩ (c_L_areBeside_2 l D z q (aa 0) (aa 1) (aa 6) (aa 15) (aa 17) (aa 22) (aa 25) (aa 27) dy (aa 2) (aa 3) (aa 4) (aa 5) pl lo v1 v2 (aa 41) ov H.size e0 e1 hlt) (vx_cwSW 4 hts gL_law_L_areBeside rfl rfl rfl hd_L_areBeside.2 ⟨Nat.le_of_ble_eq_true rfl, Nat.le_of_ble_eq_true rfl⟩) hE hS hA hP hD [0, 1, 2, 3, 4, 5, 41] rfl rfl rfl rfl hl.1 rfl (Nat.le_of_ble_eq_true rfl) dL_law_318 ⟨(by show 60 + 8 * i + 3 ≤ 601024; omega), (by show 4000 + 40 * i + 18 ≤ 7293034; omega)⟩ (fun H locs hP hD hS => ?_)
      have hP : va_P D vwCl (lawW z aa pl lo ct ti sh pr ia lt ty kp ek ef wt wh zz po me ml sn dy pl ct ti sh pr ia ltM tyM kpM ek ef wt wh zz po me ml sn dy th (vp_updL ov (0 : Int32).toNatClampNeg (if (bTouch pl v1 v2) = 0 then 0 else 1))) H := hP
      have hD : va_D (fun x : Nat => s.heap.size ≤ x) (lawW z aa pl lo ct ti sh pr ia lt ty kp ek ef wt wh zz po me ml sn dy pl ct ti sh pr ia ltM tyM kpM ek ef wt wh zz po me ml sn dy th (vp_updL ov (0 : Int32).toNatClampNeg (if (bTouch pl v1 v2) = 0 then 0 else 1))) := hD
      refine lv_istore (lv' := [(5, .int 0), (0, .ref b), (1, .ref (aa 0)), (2, .ref (aa 29)), (3, .ref (aa 41)), (4, .int (nI (4 * i)))]) hx hb dL_law_321 hl (by decide) rfl (fun ls hl => ?_)
      refine lv_aload_n hx hb dL_law_323 rfl (lv_at hl 3 rfl) ?_
      refine lv_aload_n hx hb dL_law_324 rfl (lv_at hl 1 rfl) ?_
      refine lv_iload hx hb dL_law_325 (lv_at hl 5 rfl) ?_
      refine lv_iconst (v := 1) hx hb dL_law_327 (by decide) ?_
      refine lv_iadd hx hb dL_law_328 ?_
      refine mSld hx hb hX hbl hbA hS (show vp_in (nI (4 * i) + 1) L from in4 (k := 1) (by omega) hL) hv1 dL_law_329 ?_
      refine lv_aload_n hx hb dL_law_330 rfl (lv_at hl 1 rfl) ?_
      refine lv_iload hx hb dL_law_331 (lv_at hl 5 rfl) ?_
      refine lv_iconst (v := 2) hx hb dL_law_333 (by decide) ?_
      refine lv_iadd hx hb dL_law_334 ?_
      refine mSld hx hb hX hbl hbA hS (show vp_in (nI (4 * i) + 2) L from in4 (k := 2) (by omega) hL) hv2 dL_law_335 ?_
      refine wrVi (As := [.int v1, .int v2]) (rest := []) ⟨hx, hb, hml, hown, hts⟩ (c_X7_areBeside_ok l D z q (aa 29) th (aa 30) (aa 31) (aa 32) (aa 33) (aa 34) (aa 35) (aa 36) (aa 37) (aa 38) (aa 39) (aa 40) pl ct ti sh ia pr ltM tyM zz po ml me ek ef wt wh sn kpM dy v1 v2 H.size e0 e1) (cwV 2 hts gL_law_X7_areBeside rfl rfl rfl hd_X7_areBeside ⟨Nat.le_of_ble_eq_true rfl, Nat.le_of_ble_eq_true rfl⟩) hE hS hA hP hD [29, 30, 31, 32, 33, 34, 35, 36, 37, 38, 39, 40] rfl rfl rfl rfl rfl rfl rfl hl.1 rfl (Nat.le_of_ble_eq_true rfl) dL_law_336 ⟨(by show 60 + 8 * i + 3 + 0 ≤ 601024; omega), (by show 4000 + 40 * i + 18 + 0 ≤ 7293034; omega)⟩ (fun H locs hP hD hS => ?_)
      have hP : va_P D vwCl (lawW z aa pl lo ct ti sh pr ia lt ty kp ek ef wt wh zz po me ml sn dy pl ct ti sh pr ia ltM tyM kpM ek ef wt wh zz po me ml sn dy 0 (vp_updL ov (0 : Int32).toNatClampNeg (if (bTouch pl v1 v2) = 0 then 0 else 1))) H := hP
      have hD : va_D (fun x : Nat => s.heap.size ≤ x) (lawW z aa pl lo ct ti sh pr ia lt ty kp ek ef wt wh zz po me ml sn dy pl ct ti sh pr ia ltM tyM kpM ek ef wt wh zz po me ml sn dy 0 (vp_updL ov (0 : Int32).toNatClampNeg (if (bTouch pl v1 v2) = 0 then 0 else 1))) := hD
      refine lv_istore (lv' := [(6, .int (mBes pl v1 v2)), (5, .int 0), (0, .ref b), (1, .ref (aa 0)), (2, .ref (aa 29)), (3, .ref (aa 41)), (4, .int (nI (4 * i)))]) hx hb dL_law_339 hl (by decide) rfl (fun ls hl => ?_)
      refine lv_aload_n hx hb dL_law_341 rfl (lv_at hl 4 rfl) ?_
      refine rdV (As := []) (rest := []) ⟨hx, hb, hml, hown, hts⟩ (c_X7_thrown l D z q (aa 29) 0 (aa 30) (aa 31) (aa 32) (aa 33) (aa 34) (aa 35) (aa 36) (aa 37) (aa 38) (aa 39) (aa 40) pl ct ti sh ia pr ltM tyM zz po ml me ek ef wt wh sn kpM dy) (cwV 0 hts gL_law_X7_thrown rfl rfl rfl hd_X7_thrown ⟨Nat.le_of_ble_eq_true rfl, Nat.le_of_ble_eq_true rfl⟩) hE hS hA hP [29, 30, 31, 32, 33, 34, 35, 36, 37, 38, 39, 40] rfl rfl rfl rfl rfl hl.1 rfl (Nat.le_of_ble_eq_true rfl) dL_law_342 ⟨(by show 60 + 8 * i + 3 + 0 ≤ 601024; omega), (by show 4000 + 40 * i + 18 + 0 ≤ 7293034; omega)⟩ ?_
      refine lv_iload hx hb dL_law_345 (lv_at hl 1 rfl) ?_
      refine lv_icmp_eq (tgt := 352) hx hb dL_law_347 (by decide) (fun _ => ?_) (fun c_1 => absurd (by decide) c_1)
      refine lv_iload hx hb dL_law_352 (lv_at hl 1 rfl) ?_
      refine lv_if_ne (tgt := 376) hx hb dL_law_354 (by decide) (fun c_2 => absurd (by decide) c_2) (fun _ => ?_)
      refine lv_aload_n hx hb dL_law_357 rfl (lv_at hl 5 rfl) ?_
      refine lv_iconst (v := 0) hx hb dL_law_358 (by decide) ?_
      refine va_lald hx hb hK hP 41 2 rfl rfl in0 dL_law_359 ?_
      refine lv_iload hx hb dL_law_360 (lv_at hl 0 rfl) ?_
      refine lv_if_eq (tgt := 369) hx hb dL_law_362 (by decide) (fun c_3 => ?_) (fun c_3 => ?_)
      · refine lv_lconst (v := 0) hx hb dL_law_369 rfl ?_
        refine W.lcmp hx hb dL_law_370 ?_
        refine lv_if_eq (tgt := 376) hx hb dL_law_371 (by decide) (fun _ => ?_) (fun c_4 => absurd (lgu (by rw [touch_rel hB (bW_in (n := 25) rfl (by omega) e0) (bW_in (n := 25) rfl (by omega) e1), if_pos c_3])) c_4)
        refine lv_goto (tgt := 1466) hx hb dL_law_376 (by decide) ?_
        exact W.widen (by omega) (by omega) (next pl lo ct ti sh pr ia lt ty kp ek ef ltM tyM kpM wt wh zz po me ml sn dy 0 (vp_updL ov (0 : Int32).toNatClampNeg (if (bTouch pl v1 v2) = 0 then 0 else 1)) H locs (INV_mono hI) hP hD hS ls (lv_sub hl [2, 3, 4, 5, 6] rfl))
      · refine lv_lconst (v := 1) hx hb dL_law_365 rfl ?_
        refine lv_goto (tgt := 370) hx hb dL_law_366 (by decide) ?_
        refine W.lcmp hx hb dL_law_370 ?_
        refine lv_if_eq (tgt := 376) hx hb dL_law_371 (by decide) (fun _ => ?_) (fun c_5 => absurd (lgu (by rw [touch_rel hB (bW_in (n := 25) rfl (by omega) e0) (bW_in (n := 25) rfl (by omega) e1), if_neg c_3])) c_5)
        refine lv_goto (tgt := 1466) hx hb dL_law_376 (by decide) ?_
        exact W.widen (by omega) (by omega) (next pl lo ct ti sh pr ia lt ty kp ek ef ltM tyM kpM wt wh zz po me ml sn dy 0 (vp_updL ov (0 : Int32).toNatClampNeg (if (bTouch pl v1 v2) = 0 then 0 else 1)) H locs (INV_mono hI) hP hD hS ls (lv_sub hl [2, 3, 4, 5, 6] rfl))
set_option maxHeartbeats 4000000 in
set_option maxRecDepth 100000 in
theorem law_3 {p : Program} {l : Launch} {e : Env} {s : State} {m : MethodId} {below : List Frame} {meth : Method} {c : Code} {D : va_G} {z : Nat → ClassId} {q aa : Nat → Nat} {b L : Nat} {xs : Nat → Int32} {i : Nat} (G : LG p l e s m below meth c D z q b L xs) (h4 : 4 * i + 4 ≤ L) (next : LAW p l e s m below meth c D z aa b 1466 (i + 1) i) : LAW p l e s m below meth c D z aa b 379 i i := by
  obtain ⟨hx, hb, hml, hown, hts, hX, hbl, hE, hlt, hL⟩ := G
  have hi5 : i < 512 := by omega
  have hbA : ¬ (fun x : Nat => s.heap.size ≤ x) b := Nat.not_le_of_lt hbl
  have hA : ∀ x : Nat, s.heap.size ≤ x → (fun x : Nat => s.heap.size ≤ x) x := fun _ h => h
  have hK := hE.1
  intro pl lo ct ti sh pr ia lt ty kp ek ef ltM tyM kpM wt wh zz po me ml sn dy th ov H locs hI hP hD hS ls hl
  have ⟨hB, hPR, hIO, ⟨zn, hzz, hz40, hlt9, ps, hpo, hps, hty⟩, ⟨mn, hml9, hmn⟩, ⟨sk, hsn, hsk, hkp⟩⟩ := hI
  obtain ⟨v1, hv1⟩ : ∃ v, v = xs (nI (4 * i) + 1).toNatClampNeg := ⟨_, rfl⟩
  by_cases e0 : bW v1 0 25 = 0
  · refine lv_aload_n hx hb dL_law_379 rfl (lv_at hl 1 rfl) ?_
    refine lv_aload_n hx hb dL_law_380 rfl (lv_at hl 0 rfl) ?_
    refine lv_iload hx hb dL_law_381 (lv_at hl 4 rfl) ?_
    refine lv_iconst (v := 1) hx hb dL_law_383 (by decide) ?_
    refine lv_iadd hx hb dL_law_384 ?_
    refine mSld hx hb hX hbl hbA hS (show vp_in (nI (4 * i) + 1) L from in4 (k := 1) (by omega) hL) hv1 dL_law_385 ?_
    refine lv_aload_n hx hb dL_law_386 rfl (lv_at hl 3 rfl) ?_
    refine hwS (As := [.ref (aa 0), .int v1, .ref (aa 41)]) (rest := []) ⟨hx, hb, hml, hown, hts⟩ (c_L_mirror_0 l D z q (aa 0) (aa 1) (aa 6) (aa 15) (aa 17) (aa 22) (aa 25) (aa 27) dy (aa 2) (aa 3) (aa 4) (aa 5) pl lo v1 (aa 41) ov H.size e0 hlt) (vx_cwSW 3 hts gL_law_L_mirror rfl rfl rfl hd_L_mirror.2 ⟨Nat.le_of_ble_eq_true rfl, Nat.le_of_ble_eq_true rfl⟩) hE hS hA hP hD [0, 1, 2, 3, 4, 5, 41] rfl rfl rfl rfl hl.1 rfl (Nat.le_of_ble_eq_true rfl) dL_law_387 ⟨(by show 60 + 8 * i + 3 ≤ 601024; omega), (by show 4000 + 40 * i + 18 ≤ 7293034; omega)⟩ (fun H locs hP hD hS => ?_)
    have hP : va_P D vwCl (lawW z aa pl lo ct ti sh pr ia lt ty kp ek ef wt wh zz po me ml sn dy pl ct ti sh pr ia ltM tyM kpM ek ef wt wh zz po me ml sn dy th ov) H := hP
    have hD : va_D (fun x : Nat => s.heap.size ≤ x) (lawW z aa pl lo ct ti sh pr ia lt ty kp ek ef wt wh zz po me ml sn dy pl ct ti sh pr ia ltM tyM kpM ek ef wt wh zz po me ml sn dy th ov) := hD
    refine lv_istore (lv' := [(5, .int 1), (0, .ref b), (1, .ref (aa 0)), (2, .ref (aa 29)), (3, .ref (aa 41)), (4, .int (nI (4 * i)))]) hx hb dL_law_390 hl (by decide) rfl (fun ls hl => ?_)
    refine lv_aload_n hx hb dL_law_392 rfl (lv_at hl 3 rfl) ?_
    refine lv_aload_n hx hb dL_law_393 rfl (lv_at hl 1 rfl) ?_
    refine lv_iload hx hb dL_law_394 (lv_at hl 5 rfl) ?_
    refine lv_iconst (v := 1) hx hb dL_law_396 (by decide) ?_
    refine lv_iadd hx hb dL_law_397 ?_
    refine mSld hx hb hX hbl hbA hS (show vp_in (nI (4 * i) + 1) L from in4 (k := 1) (by omega) hL) hv1 dL_law_398 ?_
    refine wrVi (As := [.int v1]) (rest := []) ⟨hx, hb, hml, hown, hts⟩ (c_X7_mirror_b0 l D z q (aa 29) th (aa 30) (aa 31) (aa 32) (aa 33) (aa 34) (aa 35) (aa 36) (aa 37) (aa 38) (aa 39) (aa 40) pl ct ti sh ia pr ltM tyM zz po ml me ek ef wt wh sn kpM dy v1 H.size e0) (cwV 1 hts gL_law_X7_mirror rfl rfl rfl hd_X7_mirror ⟨Nat.le_of_ble_eq_true rfl, Nat.le_of_ble_eq_true rfl⟩) hE hS hA hP hD [29, 30, 31, 32, 33, 34, 35, 36, 37, 38, 39, 40] rfl rfl rfl rfl rfl rfl rfl hl.1 rfl (Nat.le_of_ble_eq_true rfl) dL_law_399 ⟨(by show 60 + 8 * i + 3 + 0 ≤ 601024; omega), (by show 4000 + 40 * i + 18 + 0 ≤ 7293034; omega)⟩ (fun H locs hP hD hS => ?_)
    have hP : va_P D vwCl (lawW z aa pl lo ct ti sh pr ia lt ty kp ek ef wt wh zz po me ml sn dy pl ct ti sh pr ia ltM tyM kpM ek ef wt wh zz po me ml sn dy 1 ov) H := hP
    have hD : va_D (fun x : Nat => s.heap.size ≤ x) (lawW z aa pl lo ct ti sh pr ia lt ty kp ek ef wt wh zz po me ml sn dy pl ct ti sh pr ia ltM tyM kpM ek ef wt wh zz po me ml sn dy 1 ov) := hD
    refine lv_istore (lv' := [(6, .int 0), (5, .int 1), (0, .ref b), (1, .ref (aa 0)), (2, .ref (aa 29)), (3, .ref (aa 41)), (4, .int (nI (4 * i)))]) hx hb dL_law_402 hl (by decide) rfl (fun ls hl => ?_)
    refine lv_aload_n hx hb dL_law_404 rfl (lv_at hl 4 rfl) ?_
    refine rdV (As := []) (rest := []) ⟨hx, hb, hml, hown, hts⟩ (c_X7_thrown l D z q (aa 29) 1 (aa 30) (aa 31) (aa 32) (aa 33) (aa 34) (aa 35) (aa 36) (aa 37) (aa 38) (aa 39) (aa 40) pl ct ti sh ia pr ltM tyM zz po ml me ek ef wt wh sn kpM dy) (cwV 0 hts gL_law_X7_thrown rfl rfl rfl hd_X7_thrown ⟨Nat.le_of_ble_eq_true rfl, Nat.le_of_ble_eq_true rfl⟩) hE hS hA hP [29, 30, 31, 32, 33, 34, 35, 36, 37, 38, 39, 40] rfl rfl rfl rfl rfl hl.1 rfl (Nat.le_of_ble_eq_true rfl) dL_law_405 ⟨(by show 60 + 8 * i + 3 + 0 ≤ 601024; omega), (by show 4000 + 40 * i + 18 + 0 ≤ 7293034; omega)⟩ ?_
    refine lv_iload hx hb dL_law_408 (lv_at hl 1 rfl) ?_
    refine lv_icmp_eq (tgt := 415) hx hb dL_law_410 (by decide) (fun _ => ?_) (fun c_1 => absurd (by decide) c_1)
    refine lv_iload hx hb dL_law_415 (lv_at hl 1 rfl) ?_
    refine lv_if_ne (tgt := 432) hx hb dL_law_417 (by decide) (fun _ => ?_) (fun c_2 => absurd c_2 (by decide))
    refine lv_goto (tgt := 1466) hx hb dL_law_432 (by decide) ?_
    exact W.widen (by omega) (by omega) (next pl lo ct ti sh pr ia lt ty kp ek ef ltM tyM kpM wt wh zz po me ml sn dy 1 ov H locs (INV_mono hI) hP hD hS ls (lv_sub hl [2, 3, 4, 5, 6] rfl))
  · refine lv_aload_n hx hb dL_law_379 rfl (lv_at hl 1 rfl) ?_
    refine lv_aload_n hx hb dL_law_380 rfl (lv_at hl 0 rfl) ?_
    refine lv_iload hx hb dL_law_381 (lv_at hl 4 rfl) ?_
    refine lv_iconst (v := 1) hx hb dL_law_383 (by decide) ?_
    refine lv_iadd hx hb dL_law_384 ?_
    refine mSld hx hb hX hbl hbA hS (show vp_in (nI (4 * i) + 1) L from in4 (k := 1) (by omega) hL) hv1 dL_law_385 ?_
    refine lv_aload_n hx hb dL_law_386 rfl (lv_at hl 3 rfl) ?_
    refine hwS (As := [.ref (aa 0), .int v1, .ref (aa 41)]) (rest := []) ⟨hx, hb, hml, hown, hts⟩ (c_L_mirror_1 l D z q (aa 0) (aa 1) (aa 6) (aa 15) (aa 17) (aa 22) (aa 25) (aa 27) dy (aa 2) (aa 3) (aa 4) (aa 5) pl lo v1 (aa 41) ov H.size e0 hlt) (vx_cwSW 3 hts gL_law_L_mirror rfl rfl rfl hd_L_mirror.2 ⟨Nat.le_of_ble_eq_true rfl, Nat.le_of_ble_eq_true rfl⟩) hE hS hA hP hD [0, 1, 2, 3, 4, 5, 41] rfl rfl rfl rfl hl.1 rfl (Nat.le_of_ble_eq_true rfl) dL_law_387 ⟨(by show 60 + 8 * i + 3 ≤ 601024; omega), (by show 4000 + 40 * i + 18 ≤ 7293034; omega)⟩ (fun H locs hP hD hS => ?_)
    have hP : va_P D vwCl (lawW z aa pl lo ct ti sh pr ia lt ty kp ek ef wt wh zz po me ml sn dy pl ct ti sh pr ia ltM tyM kpM ek ef wt wh zz po me ml sn dy th (vp_updL ov (0 : Int32).toNatClampNeg (bMir pl lo v1).toInt64)) H := hP
    have hD : va_D (fun x : Nat => s.heap.size ≤ x) (lawW z aa pl lo ct ti sh pr ia lt ty kp ek ef wt wh zz po me ml sn dy pl ct ti sh pr ia ltM tyM kpM ek ef wt wh zz po me ml sn dy th (vp_updL ov (0 : Int32).toNatClampNeg (bMir pl lo v1).toInt64)) := hD
    refine lv_istore (lv' := [(5, .int 0), (0, .ref b), (1, .ref (aa 0)), (2, .ref (aa 29)), (3, .ref (aa 41)), (4, .int (nI (4 * i)))]) hx hb dL_law_390 hl (by decide) rfl (fun ls hl => ?_)
    refine lv_aload_n hx hb dL_law_392 rfl (lv_at hl 3 rfl) ?_
    refine lv_aload_n hx hb dL_law_393 rfl (lv_at hl 1 rfl) ?_
    refine lv_iload hx hb dL_law_394 (lv_at hl 5 rfl) ?_
    refine lv_iconst (v := 1) hx hb dL_law_396 (by decide) ?_
    refine lv_iadd hx hb dL_law_397 ?_
    refine mSld hx hb hX hbl hbA hS (show vp_in (nI (4 * i) + 1) L from in4 (k := 1) (by omega) hL) hv1 dL_law_398 ?_
    refine wrVi (As := [.int v1]) (rest := []) ⟨hx, hb, hml, hown, hts⟩ (c_X7_mirror_ok l D z q (aa 29) th (aa 30) (aa 31) (aa 32) (aa 33) (aa 34) (aa 35) (aa 36) (aa 37) (aa 38) (aa 39) (aa 40) pl ct ti sh ia pr ltM tyM zz po ml me ek ef wt wh sn kpM dy v1 H.size e0) (cwV 1 hts gL_law_X7_mirror rfl rfl rfl hd_X7_mirror ⟨Nat.le_of_ble_eq_true rfl, Nat.le_of_ble_eq_true rfl⟩) hE hS hA hP hD [29, 30, 31, 32, 33, 34, 35, 36, 37, 38, 39, 40] rfl rfl rfl rfl rfl rfl rfl hl.1 rfl (Nat.le_of_ble_eq_true rfl) dL_law_399 ⟨(by show 60 + 8 * i + 3 + 0 ≤ 601024; omega), (by show 4000 + 40 * i + 18 + 0 ≤ 7293034; omega)⟩ (fun H locs hP hD hS => ?_)
    have hP : va_P D vwCl (lawW z aa pl lo ct ti sh pr ia lt ty kp ek ef wt wh zz po me ml sn dy pl ct ti sh pr ia ltM tyM kpM ek ef wt wh zz po me ml sn dy 0 (vp_updL ov (0 : Int32).toNatClampNeg (bMir pl lo v1).toInt64)) H := hP
    have hD : va_D (fun x : Nat => s.heap.size ≤ x) (lawW z aa pl lo ct ti sh pr ia lt ty kp ek ef wt wh zz po me ml sn dy pl ct ti sh pr ia ltM tyM kpM ek ef wt wh zz po me ml sn dy 0 (vp_updL ov (0 : Int32).toNatClampNeg (bMir pl lo v1).toInt64)) := hD
    refine lv_istore (lv' := [(6, .int (mLet pl (mMir pl v1))), (5, .int 0), (0, .ref b), (1, .ref (aa 0)), (2, .ref (aa 29)), (3, .ref (aa 41)), (4, .int (nI (4 * i)))]) hx hb dL_law_402 hl (by decide) rfl (fun ls hl => ?_)
    refine lv_aload_n hx hb dL_law_404 rfl (lv_at hl 4 rfl) ?_
    refine rdV (As := []) (rest := []) ⟨hx, hb, hml, hown, hts⟩ (c_X7_thrown l D z q (aa 29) 0 (aa 30) (aa 31) (aa 32) (aa 33) (aa 34) (aa 35) (aa 36) (aa 37) (aa 38) (aa 39) (aa 40) pl ct ti sh ia pr ltM tyM zz po ml me ek ef wt wh sn kpM dy) (cwV 0 hts gL_law_X7_thrown rfl rfl rfl hd_X7_thrown ⟨Nat.le_of_ble_eq_true rfl, Nat.le_of_ble_eq_true rfl⟩) hE hS hA hP [29, 30, 31, 32, 33, 34, 35, 36, 37, 38, 39, 40] rfl rfl rfl rfl rfl hl.1 rfl (Nat.le_of_ble_eq_true rfl) dL_law_405 ⟨(by show 60 + 8 * i + 3 + 0 ≤ 601024; omega), (by show 4000 + 40 * i + 18 + 0 ≤ 7293034; omega)⟩ ?_
    refine lv_iload hx hb dL_law_408 (lv_at hl 1 rfl) ?_
    refine lv_icmp_eq (tgt := 415) hx hb dL_law_410 (by decide) (fun _ => ?_) (fun c_1 => absurd (by decide) c_1)
    refine lv_iload hx hb dL_law_415 (lv_at hl 1 rfl) ?_
    refine lv_if_ne (tgt := 432) hx hb dL_law_417 (by decide) (fun c_2 => absurd (by decide) c_2) (fun _ => ?_)
    refine lv_aload_n hx hb dL_law_420 rfl (lv_at hl 5 rfl) ?_
    refine lv_iconst (v := 0) hx hb dL_law_421 (by decide) ?_
    refine va_lald hx hb hK hP 41 2 rfl rfl in0 dL_law_422 ?_
    refine lv_iload hx hb dL_law_423 (lv_at hl 0 rfl) ?_
    refine lv_i2l (v := (mLet pl (mMir pl v1)).toInt64) hx hb dL_law_425 rfl ?_
    refine W.lcmp hx hb dL_law_426 ?_
    refine lv_if_eq (tgt := 432) hx hb dL_law_427 (by decide) (fun _ => ?_) (fun c_3 => absurd (lgu (congrArg Int32.toInt64 (mirror_rel hB (bW_in (n := 25) rfl (by omega) e0)))) c_3)
    refine lv_goto (tgt := 1466) hx hb dL_law_432 (by decide) ?_
    exact W.widen (by omega) (by omega) (next pl lo ct ti sh pr ia lt ty kp ek ef ltM tyM kpM wt wh zz po me ml sn dy 0 (vp_updL ov (0 : Int32).toNatClampNeg (bMir pl lo v1).toInt64) H locs (INV_mono hI) hP hD hS ls (lv_sub hl [2, 3, 4, 5, 6] rfl))
set_option maxHeartbeats 4000000 in
set_option maxRecDepth 100000 in
theorem law_4 {p : Program} {l : Launch} {e : Env} {s : State} {m : MethodId} {below : List Frame} {meth : Method} {c : Code} {D : va_G} {z : Nat → ClassId} {q aa : Nat → Nat} {b L : Nat} {xs : Nat → Int32} {i : Nat} (G : LG p l e s m below meth c D z q b L xs) (h4 : 4 * i + 4 ≤ L) (next : LAW p l e s m below meth c D z aa b 1466 (i + 1) i) : LAW p l e s m below meth c D z aa b 435 i i := by
  obtain ⟨hx, hb, hml, hown, hts, hX, hbl, hE, hlt, hL⟩ := G
  have hi5 : i < 512 := by omega
  have hbA : ¬ (fun x : Nat => s.heap.size ≤ x) b := Nat.not_le_of_lt hbl
  have hA : ∀ x : Nat, s.heap.size ≤ x → (fun x : Nat => s.heap.size ≤ x) x := fun _ h => h
  have hK := hE.1
  intro pl lo ct ti sh pr ia lt ty kp ek ef ltM tyM kpM wt wh zz po me ml sn dy th ov H locs hI hP hD hS ls hl
  have ⟨hB, hPR, hIO, ⟨zn, hzz, hz40, hlt9, ps, hpo, hps, hty⟩, ⟨mn, hml9, hmn⟩, ⟨sk, hsn, hsk, hkp⟩⟩ := hI
  obtain ⟨v1, hv1⟩ : ∃ v, v = xs (nI (4 * i) + 1).toNatClampNeg := ⟨_, rfl⟩
  by_cases e0 : bW v1 0 25 = 0
  · refine lv_aload_n hx hb dL_law_435 rfl (lv_at hl 1 rfl) ?_
    refine lv_aload_n hx hb dL_law_436 rfl (lv_at hl 0 rfl) ?_
    refine lv_iload hx hb dL_law_437 (lv_at hl 4 rfl) ?_
    refine lv_iconst (v := 1) hx hb dL_law_439 (by decide) ?_
    refine lv_iadd hx hb dL_law_440 ?_
    refine mSld hx hb hX hbl hbA hS (show vp_in (nI (4 * i) + 1) L from in4 (k := 1) (by omega) hL) hv1 dL_law_441 ?_
    refine lv_aload_n hx hb dL_law_442 rfl (lv_at hl 3 rfl) ?_
    refine hwS (As := [.ref (aa 0), .int v1, .ref (aa 41)]) (rest := []) ⟨hx, hb, hml, hown, hts⟩ (c_L_want_0 l D z q (aa 0) (aa 1) (aa 6) (aa 15) (aa 17) (aa 22) (aa 25) (aa 27) dy (aa 18) (aa 19) (aa 20) (aa 21) lt ty zz po me ml v1 (aa 41) ov H.size e0 hlt) (vx_cwSW 3 hts gL_law_L_want rfl rfl rfl hd_L_want.2 ⟨Nat.le_of_ble_eq_true rfl, Nat.le_of_ble_eq_true rfl⟩) hE hS hA hP hD [0, 17, 18, 19, 20, 21, 41] rfl rfl rfl rfl hl.1 rfl (Nat.le_of_ble_eq_true rfl) dL_law_443 ⟨(by show 60 + 8 * i + 3 ≤ 601024; omega), (by show 4000 + 40 * i + 18 ≤ 7293034; omega)⟩ (fun H locs hP hD hS => ?_)
    have hP : va_P D vwCl (lawW z aa pl lo ct ti sh pr ia lt ty kp ek ef wt wh zz po me ml sn dy pl ct ti sh pr ia ltM tyM kpM ek ef wt wh zz po me ml sn dy th ov) H := hP
    have hD : va_D (fun x : Nat => s.heap.size ≤ x) (lawW z aa pl lo ct ti sh pr ia lt ty kp ek ef wt wh zz po me ml sn dy pl ct ti sh pr ia ltM tyM kpM ek ef wt wh zz po me ml sn dy th ov) := hD
    refine lv_istore (lv' := [(5, .int 1), (0, .ref b), (1, .ref (aa 0)), (2, .ref (aa 29)), (3, .ref (aa 41)), (4, .int (nI (4 * i)))]) hx hb dL_law_446 hl (by decide) rfl (fun ls hl => ?_)
    refine lv_aload_n hx hb dL_law_448 rfl (lv_at hl 3 rfl) ?_
    refine lv_aload_n hx hb dL_law_449 rfl (lv_at hl 1 rfl) ?_
    refine lv_iload hx hb dL_law_450 (lv_at hl 5 rfl) ?_
    refine lv_iconst (v := 1) hx hb dL_law_452 (by decide) ?_
    refine lv_iadd hx hb dL_law_453 ?_
    refine mSld hx hb hX hbl hbA hS (show vp_in (nI (4 * i) + 1) L from in4 (k := 1) (by omega) hL) hv1 dL_law_454 ?_
    refine wrVi (As := [.int v1]) (rest := []) ⟨hx, hb, hml, hown, hts⟩ (c_X7_want_b0 l D z q (aa 29) th (aa 30) (aa 31) (aa 32) (aa 33) (aa 34) (aa 35) (aa 36) (aa 37) (aa 38) (aa 39) (aa 40) pl ct ti sh ia pr ltM tyM zz po ml me ek ef wt wh sn kpM dy v1 H.size e0) (cwV 1 hts gL_law_X7_want rfl rfl rfl hd_X7_want ⟨Nat.le_of_ble_eq_true rfl, Nat.le_of_ble_eq_true rfl⟩) hE hS hA hP hD [29, 30, 31, 32, 33, 34, 35, 36, 37, 38, 39, 40] rfl rfl rfl rfl rfl rfl rfl hl.1 rfl (Nat.le_of_ble_eq_true rfl) dL_law_455 ⟨(by show 60 + 8 * i + 3 + 0 ≤ 601024; omega), (by show 4000 + 40 * i + 18 + 0 ≤ 7293034; omega)⟩ (fun H locs hP hD hS => ?_)
    have hP : va_P D vwCl (lawW z aa pl lo ct ti sh pr ia lt ty kp ek ef wt wh zz po me ml sn dy pl ct ti sh pr ia ltM tyM kpM ek ef wt wh zz po me ml sn dy 1 ov) H := hP
    have hD : va_D (fun x : Nat => s.heap.size ≤ x) (lawW z aa pl lo ct ti sh pr ia lt ty kp ek ef wt wh zz po me ml sn dy pl ct ti sh pr ia ltM tyM kpM ek ef wt wh zz po me ml sn dy 1 ov) := hD
    refine lv_istore (lv' := [(6, .int 0), (5, .int 1), (0, .ref b), (1, .ref (aa 0)), (2, .ref (aa 29)), (3, .ref (aa 41)), (4, .int (nI (4 * i)))]) hx hb dL_law_458 hl (by decide) rfl (fun ls hl => ?_)
    refine lv_aload_n hx hb dL_law_460 rfl (lv_at hl 4 rfl) ?_
    refine rdV (As := []) (rest := []) ⟨hx, hb, hml, hown, hts⟩ (c_X7_thrown l D z q (aa 29) 1 (aa 30) (aa 31) (aa 32) (aa 33) (aa 34) (aa 35) (aa 36) (aa 37) (aa 38) (aa 39) (aa 40) pl ct ti sh ia pr ltM tyM zz po ml me ek ef wt wh sn kpM dy) (cwV 0 hts gL_law_X7_thrown rfl rfl rfl hd_X7_thrown ⟨Nat.le_of_ble_eq_true rfl, Nat.le_of_ble_eq_true rfl⟩) hE hS hA hP [29, 30, 31, 32, 33, 34, 35, 36, 37, 38, 39, 40] rfl rfl rfl rfl rfl hl.1 rfl (Nat.le_of_ble_eq_true rfl) dL_law_461 ⟨(by show 60 + 8 * i + 3 + 0 ≤ 601024; omega), (by show 4000 + 40 * i + 18 + 0 ≤ 7293034; omega)⟩ ?_
    refine lv_iload hx hb dL_law_464 (lv_at hl 1 rfl) ?_
    refine lv_icmp_eq (tgt := 471) hx hb dL_law_466 (by decide) (fun _ => ?_) (fun c_1 => absurd (by decide) c_1)
    refine lv_iload hx hb dL_law_471 (lv_at hl 1 rfl) ?_
    refine lv_if_ne (tgt := 488) hx hb dL_law_473 (by decide) (fun _ => ?_) (fun c_2 => absurd c_2 (by decide))
    refine lv_goto (tgt := 1466) hx hb dL_law_488 (by decide) ?_
    exact W.widen (by omega) (by omega) (next pl lo ct ti sh pr ia lt ty kp ek ef ltM tyM kpM wt wh zz po me ml sn dy 1 ov H locs (INV_mono hI) hP hD hS ls (lv_sub hl [2, 3, 4, 5, 6] rfl))
  · by_cases e1 : ¬ tFull zz = 0
    · refine lv_aload_n hx hb dL_law_435 rfl (lv_at hl 1 rfl) ?_
      refine lv_aload_n hx hb dL_law_436 rfl (lv_at hl 0 rfl) ?_
      refine lv_iload hx hb dL_law_437 (lv_at hl 4 rfl) ?_
      refine lv_iconst (v := 1) hx hb dL_law_439 (by decide) ?_
      refine lv_iadd hx hb dL_law_440 ?_
      refine mSld hx hb hX hbl hbA hS (show vp_in (nI (4 * i) + 1) L from in4 (k := 1) (by omega) hL) hv1 dL_law_441 ?_
      refine lv_aload_n hx hb dL_law_442 rfl (lv_at hl 3 rfl) ?_
      refine hwS (As := [.ref (aa 0), .int v1, .ref (aa 41)]) (rest := []) ⟨hx, hb, hml, hown, hts⟩ (c_L_want_1 l D z q (aa 0) (aa 1) (aa 6) (aa 15) (aa 17) (aa 22) (aa 25) (aa 27) dy (aa 18) (aa 19) (aa 20) (aa 21) lt ty zz po me ml v1 (aa 41) ov H.size e0 e1 hlt) (vx_cwSW 3 hts gL_law_L_want rfl rfl rfl hd_L_want.2 ⟨Nat.le_of_ble_eq_true rfl, Nat.le_of_ble_eq_true rfl⟩) hE hS hA hP hD [0, 17, 18, 19, 20, 21, 41] rfl rfl rfl rfl hl.1 rfl (Nat.le_of_ble_eq_true rfl) dL_law_443 ⟨(by show 60 + 8 * i + 3 ≤ 601024; omega), (by show 4000 + 40 * i + 18 ≤ 7293034; omega)⟩ (fun H locs hP hD hS => ?_)
      have hP : va_P D vwCl (lawW z aa pl lo ct ti sh pr ia lt ty kp ek ef wt wh zz po me ml sn dy pl ct ti sh pr ia ltM tyM kpM ek ef wt wh zz po me ml sn dy th ov) H := hP
      have hD : va_D (fun x : Nat => s.heap.size ≤ x) (lawW z aa pl lo ct ti sh pr ia lt ty kp ek ef wt wh zz po me ml sn dy pl ct ti sh pr ia ltM tyM kpM ek ef wt wh zz po me ml sn dy th ov) := hD
      refine lv_istore (lv' := [(5, .int 2), (0, .ref b), (1, .ref (aa 0)), (2, .ref (aa 29)), (3, .ref (aa 41)), (4, .int (nI (4 * i)))]) hx hb dL_law_446 hl (by decide) rfl (fun ls hl => ?_)
      refine lv_aload_n hx hb dL_law_448 rfl (lv_at hl 3 rfl) ?_
      refine lv_aload_n hx hb dL_law_449 rfl (lv_at hl 1 rfl) ?_
      refine lv_iload hx hb dL_law_450 (lv_at hl 5 rfl) ?_
      refine lv_iconst (v := 1) hx hb dL_law_452 (by decide) ?_
      refine lv_iadd hx hb dL_law_453 ?_
      refine mSld hx hb hX hbl hbA hS (show vp_in (nI (4 * i) + 1) L from in4 (k := 1) (by omega) hL) hv1 dL_law_454 ?_
      refine wrVi (As := [.int v1]) (rest := []) ⟨hx, hb, hml, hown, hts⟩ (c_X7_want_b1 l D z q (aa 29) th (aa 30) (aa 31) (aa 32) (aa 33) (aa 34) (aa 35) (aa 36) (aa 37) (aa 38) (aa 39) (aa 40) pl ct ti sh ia pr ltM tyM zz po ml me ek ef wt wh sn kpM dy v1 H.size e0 ((full_iff hzz hz40).mp e1)) (cwV 1 hts gL_law_X7_want rfl rfl rfl hd_X7_want ⟨Nat.le_of_ble_eq_true rfl, Nat.le_of_ble_eq_true rfl⟩) hE hS hA hP hD [29, 30, 31, 32, 33, 34, 35, 36, 37, 38, 39, 40] rfl rfl rfl rfl rfl rfl rfl hl.1 rfl (Nat.le_of_ble_eq_true rfl) dL_law_455 ⟨(by show 60 + 8 * i + 3 + 0 ≤ 601024; omega), (by show 4000 + 40 * i + 18 + 0 ≤ 7293034; omega)⟩ (fun H locs hP hD hS => ?_)
      have hP : va_P D vwCl (lawW z aa pl lo ct ti sh pr ia lt ty kp ek ef wt wh zz po me ml sn dy pl ct ti sh pr ia ltM tyM kpM ek ef wt wh zz po me ml sn dy 2 ov) H := hP
      have hD : va_D (fun x : Nat => s.heap.size ≤ x) (lawW z aa pl lo ct ti sh pr ia lt ty kp ek ef wt wh zz po me ml sn dy pl ct ti sh pr ia ltM tyM kpM ek ef wt wh zz po me ml sn dy 2 ov) := hD
      refine lv_istore (lv' := [(6, .int 0), (5, .int 2), (0, .ref b), (1, .ref (aa 0)), (2, .ref (aa 29)), (3, .ref (aa 41)), (4, .int (nI (4 * i)))]) hx hb dL_law_458 hl (by decide) rfl (fun ls hl => ?_)
      refine lv_aload_n hx hb dL_law_460 rfl (lv_at hl 4 rfl) ?_
      refine rdV (As := []) (rest := []) ⟨hx, hb, hml, hown, hts⟩ (c_X7_thrown l D z q (aa 29) 2 (aa 30) (aa 31) (aa 32) (aa 33) (aa 34) (aa 35) (aa 36) (aa 37) (aa 38) (aa 39) (aa 40) pl ct ti sh ia pr ltM tyM zz po ml me ek ef wt wh sn kpM dy) (cwV 0 hts gL_law_X7_thrown rfl rfl rfl hd_X7_thrown ⟨Nat.le_of_ble_eq_true rfl, Nat.le_of_ble_eq_true rfl⟩) hE hS hA hP [29, 30, 31, 32, 33, 34, 35, 36, 37, 38, 39, 40] rfl rfl rfl rfl rfl hl.1 rfl (Nat.le_of_ble_eq_true rfl) dL_law_461 ⟨(by show 60 + 8 * i + 3 + 0 ≤ 601024; omega), (by show 4000 + 40 * i + 18 + 0 ≤ 7293034; omega)⟩ ?_
      refine lv_iload hx hb dL_law_464 (lv_at hl 1 rfl) ?_
      refine lv_icmp_eq (tgt := 471) hx hb dL_law_466 (by decide) (fun _ => ?_) (fun c_1 => absurd (by decide) c_1)
      refine lv_iload hx hb dL_law_471 (lv_at hl 1 rfl) ?_
      refine lv_if_ne (tgt := 488) hx hb dL_law_473 (by decide) (fun _ => ?_) (fun c_2 => absurd c_2 (by decide))
      refine lv_goto (tgt := 1466) hx hb dL_law_488 (by decide) ?_
      exact W.widen (by omega) (by omega) (next pl lo ct ti sh pr ia lt ty kp ek ef ltM tyM kpM wt wh zz po me ml sn dy 2 ov H locs (INV_mono hI) hP hD hS ls (lv_sub hl [2, 3, 4, 5, 6] rfl))
    · have hw9 := INV_want hI (bW_in (n := 25) rfl (by omega) e0) (fun h9 => e1 ((full_iff hzz hz40).mpr h9))
      refine lv_aload_n hx hb dL_law_435 rfl (lv_at hl 1 rfl) ?_
      refine lv_aload_n hx hb dL_law_436 rfl (lv_at hl 0 rfl) ?_
      refine lv_iload hx hb dL_law_437 (lv_at hl 4 rfl) ?_
      refine lv_iconst (v := 1) hx hb dL_law_439 (by decide) ?_
      refine lv_iadd hx hb dL_law_440 ?_
      refine mSld hx hb hX hbl hbA hS (show vp_in (nI (4 * i) + 1) L from in4 (k := 1) (by omega) hL) hv1 dL_law_441 ?_
      refine lv_aload_n hx hb dL_law_442 rfl (lv_at hl 3 rfl) ?_
      refine hwS (As := [.ref (aa 0), .int v1, .ref (aa 41)]) (rest := []) ⟨hx, hb, hml, hown, hts⟩ (c_L_want_2 l D z q (aa 0) (aa 1) (aa 6) (aa 15) (aa 17) (aa 22) (aa 25) (aa 27) dy (aa 18) (aa 19) (aa 20) (aa 21) lt ty zz po me ml v1 (aa 41) ov H.size e0 e1 hlt) (vx_cwSW 3 hts gL_law_L_want rfl rfl rfl hd_L_want.2 ⟨Nat.le_of_ble_eq_true rfl, Nat.le_of_ble_eq_true rfl⟩) hE hS hA hP hD [0, 17, 18, 19, 20, 21, 41] rfl rfl rfl rfl hl.1 rfl (Nat.le_of_ble_eq_true rfl) dL_law_443 ⟨(by show 60 + 8 * i + 3 ≤ 601024; omega), (by show 4000 + 40 * i + 18 ≤ 7293034; omega)⟩ (fun H locs hP hD hS => ?_)
      have hP : va_P D vwCl (lawW z aa pl lo ct ti sh pr ia (cSet 40 lt zz v1) ty kp ek ef wt wh (zz + 1) po me ml sn dy pl ct ti sh pr ia ltM tyM kpM ek ef wt wh zz po me ml sn dy th (vp_updL ov (0 : Int32).toNatClampNeg (zz + 1).toInt64)) H := hP
      have hD : va_D (fun x : Nat => s.heap.size ≤ x) (lawW z aa pl lo ct ti sh pr ia (cSet 40 lt zz v1) ty kp ek ef wt wh (zz + 1) po me ml sn dy pl ct ti sh pr ia ltM tyM kpM ek ef wt wh zz po me ml sn dy th (vp_updL ov (0 : Int32).toNatClampNeg (zz + 1).toInt64)) := hD
      refine lv_istore (lv' := [(5, .int 0), (0, .ref b), (1, .ref (aa 0)), (2, .ref (aa 29)), (3, .ref (aa 41)), (4, .int (nI (4 * i)))]) hx hb dL_law_446 hl (by decide) rfl (fun ls hl => ?_)
      refine lv_aload_n hx hb dL_law_448 rfl (lv_at hl 3 rfl) ?_
      refine lv_aload_n hx hb dL_law_449 rfl (lv_at hl 1 rfl) ?_
      refine lv_iload hx hb dL_law_450 (lv_at hl 5 rfl) ?_
      refine lv_iconst (v := 1) hx hb dL_law_452 (by decide) ?_
      refine lv_iadd hx hb dL_law_453 ?_
      refine mSld hx hb hX hbl hbA hS (show vp_in (nI (4 * i) + 1) L from in4 (k := 1) (by omega) hL) hv1 dL_law_454 ?_
      refine wrVi (As := [.int v1]) (rest := []) ⟨hx, hb, hml, hown, hts⟩ (c_X7_want_ok l D z q (aa 29) th (aa 30) (aa 31) (aa 32) (aa 33) (aa 34) (aa 35) (aa 36) (aa 37) (aa 38) (aa 39) (aa 40) pl ct ti sh ia pr ltM tyM zz po ml me ek ef wt wh sn kpM dy v1 H.size e0 (fun h9 => e1 ((full_iff hzz hz40).mpr h9)) hw9.1) (cwV 1 hts gL_law_X7_want rfl rfl rfl hd_X7_want ⟨Nat.le_of_ble_eq_true rfl, Nat.le_of_ble_eq_true rfl⟩) hE hS hA hP hD [29, 30, 31, 32, 33, 34, 35, 36, 37, 38, 39, 40] rfl rfl rfl rfl rfl rfl rfl hl.1 rfl (Nat.le_of_ble_eq_true rfl) dL_law_455 ⟨(by show 60 + 8 * i + 3 + 0 ≤ 601024; omega), (by show 4000 + 40 * i + 18 + 0 ≤ 7293034; omega)⟩ (fun H locs hP hD hS => ?_)
      have hP : va_P D vwCl (lawW z aa pl lo ct ti sh pr ia (cSet 40 lt zz v1) ty kp ek ef wt wh (zz + 1) po me ml sn dy pl ct ti sh pr ia (cSet 40 ltM zz v1) tyM kpM ek ef wt wh (zz + 1) po me ml sn dy 0 (vp_updL ov (0 : Int32).toNatClampNeg (zz + 1).toInt64)) H := hP
      have hD : va_D (fun x : Nat => s.heap.size ≤ x) (lawW z aa pl lo ct ti sh pr ia (cSet 40 lt zz v1) ty kp ek ef wt wh (zz + 1) po me ml sn dy pl ct ti sh pr ia (cSet 40 ltM zz v1) tyM kpM ek ef wt wh (zz + 1) po me ml sn dy 0 (vp_updL ov (0 : Int32).toNatClampNeg (zz + 1).toInt64)) := hD
      refine lv_istore (lv' := [(6, .int (zz + 1)), (5, .int 0), (0, .ref b), (1, .ref (aa 0)), (2, .ref (aa 29)), (3, .ref (aa 41)), (4, .int (nI (4 * i)))]) hx hb dL_law_458 hl (by decide) rfl (fun ls hl => ?_)
      refine lv_aload_n hx hb dL_law_460 rfl (lv_at hl 4 rfl) ?_
      refine rdV (As := []) (rest := []) ⟨hx, hb, hml, hown, hts⟩ (c_X7_thrown l D z q (aa 29) 0 (aa 30) (aa 31) (aa 32) (aa 33) (aa 34) (aa 35) (aa 36) (aa 37) (aa 38) (aa 39) (aa 40) pl ct ti sh ia pr (cSet 40 ltM zz v1) tyM (zz + 1) po ml me ek ef wt wh sn kpM dy) (cwV 0 hts gL_law_X7_thrown rfl rfl rfl hd_X7_thrown ⟨Nat.le_of_ble_eq_true rfl, Nat.le_of_ble_eq_true rfl⟩) hE hS hA hP [29, 30, 31, 32, 33, 34, 35, 36, 37, 38, 39, 40] rfl rfl rfl rfl rfl hl.1 rfl (Nat.le_of_ble_eq_true rfl) dL_law_461 ⟨(by show 60 + 8 * i + 3 + 0 ≤ 601024; omega), (by show 4000 + 40 * i + 18 + 0 ≤ 7293034; omega)⟩ ?_
      refine lv_iload hx hb dL_law_464 (lv_at hl 1 rfl) ?_
      refine lv_icmp_eq (tgt := 471) hx hb dL_law_466 (by decide) (fun _ => ?_) (fun c_1 => absurd (by decide) c_1)
      refine lv_iload hx hb dL_law_471 (lv_at hl 1 rfl) ?_
      refine lv_if_ne (tgt := 488) hx hb dL_law_473 (by decide) (fun c_2 => absurd (by decide) c_2) (fun _ => ?_)
      refine lv_aload_n hx hb dL_law_476 rfl (lv_at hl 5 rfl) ?_
      refine lv_iconst (v := 0) hx hb dL_law_477 (by decide) ?_
      refine va_lald hx hb hK hP 41 2 rfl rfl in0 dL_law_478 ?_
      refine lv_iload hx hb dL_law_479 (lv_at hl 0 rfl) ?_
      refine lv_i2l (v := (zz + 1).toInt64) hx hb dL_law_481 rfl ?_
      refine W.lcmp hx hb dL_law_482 ?_
      refine lv_if_eq (tgt := 488) hx hb dL_law_483 (by decide) (fun _ => ?_) (fun c_3 => absurd (lgu rfl) c_3)
      refine lv_goto (tgt := 1466) hx hb dL_law_488 (by decide) ?_
      exact W.widen (by omega) (by omega) (next pl lo ct ti sh pr ia (cSet 40 lt zz v1) ty kp ek ef (cSet 40 ltM zz v1) tyM kpM wt wh (zz + 1) po me ml sn dy 0 (vp_updL ov (0 : Int32).toNatClampNeg (zz + 1).toInt64) H locs (hw9.2) hP hD hS ls (lv_sub hl [2, 3, 4, 5, 6] rfl))
set_option maxHeartbeats 4000000 in
set_option maxRecDepth 100000 in
theorem law_5 {p : Program} {l : Launch} {e : Env} {s : State} {m : MethodId} {below : List Frame} {meth : Method} {c : Code} {D : va_G} {z : Nat → ClassId} {q aa : Nat → Nat} {b L : Nat} {xs : Nat → Int32} {i : Nat} (G : LG p l e s m below meth c D z q b L xs) (h4 : 4 * i + 4 ≤ L) (next : LAW p l e s m below meth c D z aa b 1466 (i + 1) i) : LAW p l e s m below meth c D z aa b 491 i i := by
  obtain ⟨hx, hb, hml, hown, hts, hX, hbl, hE, hlt, hL⟩ := G
  have hi5 : i < 512 := by omega
  have hbA : ¬ (fun x : Nat => s.heap.size ≤ x) b := Nat.not_le_of_lt hbl
  have hA : ∀ x : Nat, s.heap.size ≤ x → (fun x : Nat => s.heap.size ≤ x) x := fun _ h => h
  have hK := hE.1
  intro pl lo ct ti sh pr ia lt ty kp ek ef ltM tyM kpM wt wh zz po me ml sn dy th ov H locs hI hP hD hS ls hl
  have ⟨hB, hPR, hIO, ⟨zn, hzz, hz40, hlt9, ps, hpo, hps, hty⟩, ⟨mn, hml9, hmn⟩, ⟨sk, hsn, hsk, hkp⟩⟩ := hI
  obtain ⟨v1, hv1⟩ : ∃ v, v = xs (nI (4 * i) + 1).toNatClampNeg := ⟨_, rfl⟩
  by_cases e0 : bW v1 1 40 = 0
  · refine lv_aload_n hx hb dL_law_491 rfl (lv_at hl 1 rfl) ?_
    refine lv_aload_n hx hb dL_law_492 rfl (lv_at hl 0 rfl) ?_
    refine lv_iload hx hb dL_law_493 (lv_at hl 4 rfl) ?_
    refine lv_iconst (v := 1) hx hb dL_law_495 (by decide) ?_
    refine lv_iadd hx hb dL_law_496 ?_
    refine mSld hx hb hX hbl hbA hS (show vp_in (nI (4 * i) + 1) L from in4 (k := 1) (by omega) hL) hv1 dL_law_497 ?_
    refine lv_aload_n hx hb dL_law_498 rfl (lv_at hl 3 rfl) ?_
    refine hwS (As := [.ref (aa 0), .int v1, .ref (aa 41)]) (rest := []) ⟨hx, hb, hml, hown, hts⟩ (c_L_drill_0 l D z q (aa 0) (aa 1) (aa 6) (aa 15) (aa 17) (aa 22) (aa 25) (aa 27) dy (aa 16) ia (aa 7) (aa 8) (aa 9) (aa 10) (aa 11) (aa 12) (aa 13) (aa 14) ct ti sh pr wt wh (aa 18) (aa 19) (aa 20) (aa 21) lt ty zz po me ml zn v1 (aa 41) ov H.size hzz hz40 e0 hlt) (vx_cwSW 3 hts gL_law_L_drill rfl rfl rfl hd_L_drill.2 ⟨Nat.le_of_ble_eq_true rfl, Nat.le_of_ble_eq_true rfl⟩) hE hS hA hP hD [0, 15, 16, 6, 7, 8, 9, 10, 11, 12, 13, 14, 17, 18, 19, 20, 21, 41] rfl rfl rfl rfl hl.1 rfl (Nat.le_of_ble_eq_true rfl) dL_law_499 ⟨(by show 60 + 8 * i + 3 ≤ 601024; omega), (by show 4000 + 40 * i + 18 ≤ 7293034; omega)⟩ (fun H locs hP hD hS => ?_)
    have hP : va_P D vwCl (lawW z aa pl lo ct ti sh pr ia lt ty kp ek ef wt wh zz po me ml sn dy pl ct ti sh pr ia ltM tyM kpM ek ef wt wh zz po me ml sn dy th ov) H := hP
    have hD : va_D (fun x : Nat => s.heap.size ≤ x) (lawW z aa pl lo ct ti sh pr ia lt ty kp ek ef wt wh zz po me ml sn dy pl ct ti sh pr ia ltM tyM kpM ek ef wt wh zz po me ml sn dy th ov) := hD
    refine lv_istore (lv' := [(5, .int 1), (0, .ref b), (1, .ref (aa 0)), (2, .ref (aa 29)), (3, .ref (aa 41)), (4, .int (nI (4 * i)))]) hx hb dL_law_502 hl (by decide) rfl (fun ls hl => ?_)
    refine lv_aload_n hx hb dL_law_504 rfl (lv_at hl 3 rfl) ?_
    refine lv_aload_n hx hb dL_law_505 rfl (lv_at hl 1 rfl) ?_
    refine lv_iload hx hb dL_law_506 (lv_at hl 5 rfl) ?_
    refine lv_iconst (v := 1) hx hb dL_law_508 (by decide) ?_
    refine lv_iadd hx hb dL_law_509 ?_
    refine mSld hx hb hX hbl hbA hS (show vp_in (nI (4 * i) + 1) L from in4 (k := 1) (by omega) hL) hv1 dL_law_510 ?_
    refine wrVi (As := [.int v1]) (rest := []) ⟨hx, hb, hml, hown, hts⟩ (c_X7_drill_b0 l D z q (aa 29) th (aa 30) (aa 31) (aa 32) (aa 33) (aa 34) (aa 35) (aa 36) (aa 37) (aa 38) (aa 39) (aa 40) pl ct ti sh ia pr ltM tyM zz po ml me ek ef wt wh sn kpM dy v1 H.size e0) (cwV 1 hts gL_law_X7_drill rfl rfl rfl hd_X7_drill ⟨Nat.le_of_ble_eq_true rfl, Nat.le_of_ble_eq_true rfl⟩) hE hS hA hP hD [29, 30, 31, 32, 33, 34, 35, 36, 37, 38, 39, 40] rfl rfl rfl rfl rfl rfl rfl hl.1 rfl (Nat.le_of_ble_eq_true rfl) dL_law_511 ⟨(by show 60 + 8 * i + 3 + 0 ≤ 601024; omega), (by show 4000 + 40 * i + 18 + 0 ≤ 7293034; omega)⟩ (fun H locs hP hD hS => ?_)
    have hP : va_P D vwCl (lawW z aa pl lo ct ti sh pr ia lt ty kp ek ef wt wh zz po me ml sn dy pl ct ti sh pr ia ltM tyM kpM ek ef wt wh zz po me ml sn dy 1 ov) H := hP
    have hD : va_D (fun x : Nat => s.heap.size ≤ x) (lawW z aa pl lo ct ti sh pr ia lt ty kp ek ef wt wh zz po me ml sn dy pl ct ti sh pr ia ltM tyM kpM ek ef wt wh zz po me ml sn dy 1 ov) := hD
    refine lv_istore (lv' := [(6, .int 0), (5, .int 1), (0, .ref b), (1, .ref (aa 0)), (2, .ref (aa 29)), (3, .ref (aa 41)), (4, .int (nI (4 * i)))]) hx hb dL_law_514 hl (by decide) rfl (fun ls hl => ?_)
    refine lv_aload_n hx hb dL_law_516 rfl (lv_at hl 4 rfl) ?_
    refine rdV (As := []) (rest := []) ⟨hx, hb, hml, hown, hts⟩ (c_X7_thrown l D z q (aa 29) 1 (aa 30) (aa 31) (aa 32) (aa 33) (aa 34) (aa 35) (aa 36) (aa 37) (aa 38) (aa 39) (aa 40) pl ct ti sh ia pr ltM tyM zz po ml me ek ef wt wh sn kpM dy) (cwV 0 hts gL_law_X7_thrown rfl rfl rfl hd_X7_thrown ⟨Nat.le_of_ble_eq_true rfl, Nat.le_of_ble_eq_true rfl⟩) hE hS hA hP [29, 30, 31, 32, 33, 34, 35, 36, 37, 38, 39, 40] rfl rfl rfl rfl rfl hl.1 rfl (Nat.le_of_ble_eq_true rfl) dL_law_517 ⟨(by show 60 + 8 * i + 3 + 0 ≤ 601024; omega), (by show 4000 + 40 * i + 18 + 0 ≤ 7293034; omega)⟩ ?_
    refine lv_iload hx hb dL_law_520 (lv_at hl 1 rfl) ?_
    refine lv_icmp_eq (tgt := 527) hx hb dL_law_522 (by decide) (fun _ => ?_) (fun c_1 => absurd (by decide) c_1)
    refine lv_iload hx hb dL_law_527 (lv_at hl 1 rfl) ?_
    refine lv_if_ne (tgt := 544) hx hb dL_law_529 (by decide) (fun _ => ?_) (fun c_2 => absurd c_2 (by decide))
    refine lv_goto (tgt := 1466) hx hb dL_law_544 (by decide) ?_
    exact W.widen (by omega) (by omega) (next pl lo ct ti sh pr ia lt ty kp ek ef ltM tyM kpM wt wh zz po me ml sn dy 1 ov H locs (INV_mono hI) hP hD hS ls (lv_sub hl [2, 3, 4, 5, 6] rfl))
  · refine lv_aload_n hx hb dL_law_491 rfl (lv_at hl 1 rfl) ?_
    refine lv_aload_n hx hb dL_law_492 rfl (lv_at hl 0 rfl) ?_
    refine lv_iload hx hb dL_law_493 (lv_at hl 4 rfl) ?_
    refine lv_iconst (v := 1) hx hb dL_law_495 (by decide) ?_
    refine lv_iadd hx hb dL_law_496 ?_
    refine mSld hx hb hX hbl hbA hS (show vp_in (nI (4 * i) + 1) L from in4 (k := 1) (by omega) hL) hv1 dL_law_497 ?_
    refine lv_aload_n hx hb dL_law_498 rfl (lv_at hl 3 rfl) ?_
    refine hwS (As := [.ref (aa 0), .int v1, .ref (aa 41)]) (rest := []) ⟨hx, hb, hml, hown, hts⟩ (c_L_drill_1 l D z q (aa 0) (aa 1) (aa 6) (aa 15) (aa 17) (aa 22) (aa 25) (aa 27) dy (aa 16) ia (aa 7) (aa 8) (aa 9) (aa 10) (aa 11) (aa 12) (aa 13) (aa 14) ct ti sh pr wt wh (aa 18) (aa 19) (aa 20) (aa 21) lt ty zz po me ml zn v1 (aa 41) ov H.size hzz hz40 e0 hlt) (vx_cwSW 3 hts gL_law_L_drill rfl rfl rfl hd_L_drill.2 ⟨Nat.le_of_ble_eq_true rfl, Nat.le_of_ble_eq_true rfl⟩) hE hS hA hP hD [0, 15, 16, 6, 7, 8, 9, 10, 11, 12, 13, 14, 17, 18, 19, 20, 21, 41] rfl rfl rfl rfl hl.1 rfl (Nat.le_of_ble_eq_true rfl) dL_law_499 ⟨(by show 60 + 8 * i + 3 ≤ 601024; omega), (by show 4000 + 40 * i + 18 ≤ 7293034; omega)⟩ (fun H locs hP hD hS => ?_)
    have hP : va_P D vwCl (lawW z aa pl lo ct ti sh pr ia (dT ia ti sh pr lt zn (dN v1 zn)) ty kp ek ef wt wh (nI (zn + dN v1 zn)) po me ml sn dy pl ct ti sh pr ia ltM tyM kpM ek ef wt wh zz po me ml sn dy th (vp_updL ov (0 : Int32).toNatClampNeg (nI (dN v1 zn)).toInt64)) H := hP
    have hD : va_D (fun x : Nat => s.heap.size ≤ x) (lawW z aa pl lo ct ti sh pr ia (dT ia ti sh pr lt zn (dN v1 zn)) ty kp ek ef wt wh (nI (zn + dN v1 zn)) po me ml sn dy pl ct ti sh pr ia ltM tyM kpM ek ef wt wh zz po me ml sn dy th (vp_updL ov (0 : Int32).toNatClampNeg (nI (dN v1 zn)).toInt64)) := hD
    refine lv_istore (lv' := [(5, .int 0), (0, .ref b), (1, .ref (aa 0)), (2, .ref (aa 29)), (3, .ref (aa 41)), (4, .int (nI (4 * i)))]) hx hb dL_law_502 hl (by decide) rfl (fun ls hl => ?_)
    refine lv_aload_n hx hb dL_law_504 rfl (lv_at hl 3 rfl) ?_
    refine lv_aload_n hx hb dL_law_505 rfl (lv_at hl 1 rfl) ?_
    refine lv_iload hx hb dL_law_506 (lv_at hl 5 rfl) ?_
    refine lv_iconst (v := 1) hx hb dL_law_508 (by decide) ?_
    refine lv_iadd hx hb dL_law_509 ?_
    refine mSld hx hb hX hbl hbA hS (show vp_in (nI (4 * i) + 1) L from in4 (k := 1) (by omega) hL) hv1 dL_law_510 ?_
    refine wrVi (As := [.int v1]) (rest := []) ⟨hx, hb, hml, hown, hts⟩ (c_X7_drill_ok l D z q (aa 29) th (aa 30) (aa 31) (aa 32) (aa 33) (aa 34) (aa 35) (aa 36) (aa 37) (aa 38) (aa 39) (aa 40) pl ct ti sh ia pr ltM tyM zz po ml me ek ef wt wh sn kpM dy zn v1 H.size e0 hzz hz40 hIO (PRK_ok hPR)) (cwV 1 hts gL_law_X7_drill rfl rfl rfl hd_X7_drill ⟨Nat.le_of_ble_eq_true rfl, Nat.le_of_ble_eq_true rfl⟩) hE hS hA hP hD [29, 30, 31, 32, 33, 34, 35, 36, 37, 38, 39, 40] rfl rfl rfl rfl rfl rfl rfl hl.1 rfl (Nat.le_of_ble_eq_true rfl) dL_law_511 ⟨(by show 60 + 8 * i + 3 + 0 ≤ 601024; omega), (by show 4000 + 40 * i + 18 + 0 ≤ 7293034; omega)⟩ (fun H locs hP hD hS => ?_)
    have hP : va_P D vwCl (lawW z aa pl lo ct ti sh pr ia (dT ia ti sh pr lt zn (dN v1 zn)) ty kp ek ef wt wh (nI (zn + dN v1 zn)) po me ml sn dy pl ct ti sh pr ia (dT ia ti sh pr ltM zn (dN v1 zn)) tyM kpM ek ef wt wh (nI (zn + dN v1 zn)) po me ml sn dy 0 (vp_updL ov (0 : Int32).toNatClampNeg (nI (dN v1 zn)).toInt64)) H := hP
    have hD : va_D (fun x : Nat => s.heap.size ≤ x) (lawW z aa pl lo ct ti sh pr ia (dT ia ti sh pr lt zn (dN v1 zn)) ty kp ek ef wt wh (nI (zn + dN v1 zn)) po me ml sn dy pl ct ti sh pr ia (dT ia ti sh pr ltM zn (dN v1 zn)) tyM kpM ek ef wt wh (nI (zn + dN v1 zn)) po me ml sn dy 0 (vp_updL ov (0 : Int32).toNatClampNeg (nI (dN v1 zn)).toInt64)) := hD
    refine lv_istore (lv' := [(6, .int (nI (dN v1 zn))), (5, .int 0), (0, .ref b), (1, .ref (aa 0)), (2, .ref (aa 29)), (3, .ref (aa 41)), (4, .int (nI (4 * i)))]) hx hb dL_law_514 hl (by decide) rfl (fun ls hl => ?_)
    refine lv_aload_n hx hb dL_law_516 rfl (lv_at hl 4 rfl) ?_
    refine rdV (As := []) (rest := []) ⟨hx, hb, hml, hown, hts⟩ (c_X7_thrown l D z q (aa 29) 0 (aa 30) (aa 31) (aa 32) (aa 33) (aa 34) (aa 35) (aa 36) (aa 37) (aa 38) (aa 39) (aa 40) pl ct ti sh ia pr (dT ia ti sh pr ltM zn (dN v1 zn)) tyM (nI (zn + dN v1 zn)) po ml me ek ef wt wh sn kpM dy) (cwV 0 hts gL_law_X7_thrown rfl rfl rfl hd_X7_thrown ⟨Nat.le_of_ble_eq_true rfl, Nat.le_of_ble_eq_true rfl⟩) hE hS hA hP [29, 30, 31, 32, 33, 34, 35, 36, 37, 38, 39, 40] rfl rfl rfl rfl rfl hl.1 rfl (Nat.le_of_ble_eq_true rfl) dL_law_517 ⟨(by show 60 + 8 * i + 3 + 0 ≤ 601024; omega), (by show 4000 + 40 * i + 18 + 0 ≤ 7293034; omega)⟩ ?_
    refine lv_iload hx hb dL_law_520 (lv_at hl 1 rfl) ?_
    refine lv_icmp_eq (tgt := 527) hx hb dL_law_522 (by decide) (fun _ => ?_) (fun c_1 => absurd (by decide) c_1)
    refine lv_iload hx hb dL_law_527 (lv_at hl 1 rfl) ?_
    refine lv_if_ne (tgt := 544) hx hb dL_law_529 (by decide) (fun c_2 => absurd (by decide) c_2) (fun _ => ?_)
    refine lv_aload_n hx hb dL_law_532 rfl (lv_at hl 5 rfl) ?_
    refine lv_iconst (v := 0) hx hb dL_law_533 (by decide) ?_
    refine va_lald hx hb hK hP 41 2 rfl rfl in0 dL_law_534 ?_
    refine lv_iload hx hb dL_law_535 (lv_at hl 0 rfl) ?_
    refine lv_i2l (v := (nI (dN v1 zn)).toInt64) hx hb dL_law_537 rfl ?_
    refine W.lcmp hx hb dL_law_538 ?_
    refine lv_if_eq (tgt := 544) hx hb dL_law_539 (by decide) (fun _ => ?_) (fun c_3 => absurd (lgu rfl) c_3)
    refine lv_goto (tgt := 1466) hx hb dL_law_544 (by decide) ?_
    exact W.widen (by omega) (by omega) (next pl lo ct ti sh pr ia (dT ia ti sh pr lt zn (dN v1 zn)) ty kp ek ef (dT ia ti sh pr ltM zn (dN v1 zn)) tyM kpM wt wh (nI (zn + dN v1 zn)) po me ml sn dy 0 (vp_updL ov (0 : Int32).toNatClampNeg (nI (dN v1 zn)).toInt64) H locs (INV_drill hI ti sh v1 hzz hz40) hP hD hS ls (lv_sub hl [2, 3, 4, 5, 6] rfl))
set_option maxHeartbeats 4000000 in
set_option maxRecDepth 100000 in
theorem law_7 {p : Program} {l : Launch} {e : Env} {s : State} {m : MethodId} {below : List Frame} {meth : Method} {c : Code} {D : va_G} {z : Nat → ClassId} {q aa : Nat → Nat} {b L : Nat} {xs : Nat → Int32} {i : Nat} (G : LG p l e s m below meth c D z q b L xs) (h4 : 4 * i + 4 ≤ L) (next : LAW p l e s m below meth c D z aa b 1466 (i + 1) i) : LAW p l e s m below meth c D z aa b 560 i i := by
  obtain ⟨hx, hb, hml, hown, hts, hX, hbl, hE, hlt, hL⟩ := G
  have hi5 : i < 512 := by omega
  have hbA : ¬ (fun x : Nat => s.heap.size ≤ x) b := Nat.not_le_of_lt hbl
  have hA : ∀ x : Nat, s.heap.size ≤ x → (fun x : Nat => s.heap.size ≤ x) x := fun _ h => h
  have hK := hE.1
  intro pl lo ct ti sh pr ia lt ty kp ek ef ltM tyM kpM wt wh zz po me ml sn dy th ov H locs hI hP hD hS ls hl
  have ⟨hB, hPR, hIO, ⟨zn, hzz, hz40, hlt9, ps, hpo, hps, hty⟩, ⟨mn, hml9, hmn⟩, ⟨sk, hsn, hsk, hkp⟩⟩ := hI
  obtain ⟨v1, hv1⟩ : ∃ v, v = xs (nI (4 * i) + 1).toNatClampNeg := ⟨_, rfl⟩
  by_cases e0 : bW v1 0 (zz - 1) = 0
  · refine lv_aload_n hx hb dL_law_560 rfl (lv_at hl 1 rfl) ?_
    refine lv_aload_n hx hb dL_law_561 rfl (lv_at hl 0 rfl) ?_
    refine lv_iload hx hb dL_law_562 (lv_at hl 4 rfl) ?_
    refine lv_iconst (v := 1) hx hb dL_law_564 (by decide) ?_
    refine lv_iadd hx hb dL_law_565 ?_
    refine mSld hx hb hX hbl hbA hS (show vp_in (nI (4 * i) + 1) L from in4 (k := 1) (by omega) hL) hv1 dL_law_566 ?_
    refine lv_aload_n hx hb dL_law_567 rfl (lv_at hl 3 rfl) ?_
    refine hwS (As := [.ref (aa 0), .int v1, .ref (aa 41)]) (rest := []) ⟨hx, hb, hml, hown, hts⟩ (c_L_wantedAt_0 l D z q (aa 0) (aa 1) (aa 6) (aa 15) (aa 17) (aa 22) (aa 25) (aa 27) dy (aa 18) (aa 19) (aa 20) (aa 21) lt ty zz po me ml v1 (aa 41) ov H.size e0 hlt) (vx_cwSW 3 hts gL_law_L_wantedAt rfl rfl rfl hd_L_wantedAt.2 ⟨Nat.le_of_ble_eq_true rfl, Nat.le_of_ble_eq_true rfl⟩) hE hS hA hP hD [0, 17, 18, 19, 20, 21, 41] rfl rfl rfl rfl hl.1 rfl (Nat.le_of_ble_eq_true rfl) dL_law_568 ⟨(by show 60 + 8 * i + 3 ≤ 601024; omega), (by show 4000 + 40 * i + 18 ≤ 7293034; omega)⟩ (fun H locs hP hD hS => ?_)
    have hP : va_P D vwCl (lawW z aa pl lo ct ti sh pr ia lt ty kp ek ef wt wh zz po me ml sn dy pl ct ti sh pr ia ltM tyM kpM ek ef wt wh zz po me ml sn dy th ov) H := hP
    have hD : va_D (fun x : Nat => s.heap.size ≤ x) (lawW z aa pl lo ct ti sh pr ia lt ty kp ek ef wt wh zz po me ml sn dy pl ct ti sh pr ia ltM tyM kpM ek ef wt wh zz po me ml sn dy th ov) := hD
    refine lv_istore (lv' := [(5, .int 1), (0, .ref b), (1, .ref (aa 0)), (2, .ref (aa 29)), (3, .ref (aa 41)), (4, .int (nI (4 * i)))]) hx hb dL_law_571 hl (by decide) rfl (fun ls hl => ?_)
    refine lv_aload_n hx hb dL_law_573 rfl (lv_at hl 3 rfl) ?_
    refine lv_aload_n hx hb dL_law_574 rfl (lv_at hl 1 rfl) ?_
    refine lv_iload hx hb dL_law_575 (lv_at hl 5 rfl) ?_
    refine lv_iconst (v := 1) hx hb dL_law_577 (by decide) ?_
    refine lv_iadd hx hb dL_law_578 ?_
    refine mSld hx hb hX hbl hbA hS (show vp_in (nI (4 * i) + 1) L from in4 (k := 1) (by omega) hL) hv1 dL_law_579 ?_
    refine wrVi (As := [.int v1]) (rest := []) ⟨hx, hb, hml, hown, hts⟩ (c_X7_wantedAt_b0 l D z q (aa 29) th (aa 30) (aa 31) (aa 32) (aa 33) (aa 34) (aa 35) (aa 36) (aa 37) (aa 38) (aa 39) (aa 40) pl ct ti sh ia pr ltM tyM zz po ml me ek ef wt wh sn kpM dy v1 H.size e0) (cwV 1 hts gL_law_X7_wantedAt rfl rfl rfl hd_X7_wantedAt ⟨Nat.le_of_ble_eq_true rfl, Nat.le_of_ble_eq_true rfl⟩) hE hS hA hP hD [29, 30, 31, 32, 33, 34, 35, 36, 37, 38, 39, 40] rfl rfl rfl rfl rfl rfl rfl hl.1 rfl (Nat.le_of_ble_eq_true rfl) dL_law_580 ⟨(by show 60 + 8 * i + 3 + 0 ≤ 601024; omega), (by show 4000 + 40 * i + 18 + 0 ≤ 7293034; omega)⟩ (fun H locs hP hD hS => ?_)
    have hP : va_P D vwCl (lawW z aa pl lo ct ti sh pr ia lt ty kp ek ef wt wh zz po me ml sn dy pl ct ti sh pr ia ltM tyM kpM ek ef wt wh zz po me ml sn dy 1 ov) H := hP
    have hD : va_D (fun x : Nat => s.heap.size ≤ x) (lawW z aa pl lo ct ti sh pr ia lt ty kp ek ef wt wh zz po me ml sn dy pl ct ti sh pr ia ltM tyM kpM ek ef wt wh zz po me ml sn dy 1 ov) := hD
    refine lv_istore (lv' := [(6, .int 0), (5, .int 1), (0, .ref b), (1, .ref (aa 0)), (2, .ref (aa 29)), (3, .ref (aa 41)), (4, .int (nI (4 * i)))]) hx hb dL_law_583 hl (by decide) rfl (fun ls hl => ?_)
    refine lv_aload_n hx hb dL_law_585 rfl (lv_at hl 4 rfl) ?_
    refine rdV (As := []) (rest := []) ⟨hx, hb, hml, hown, hts⟩ (c_X7_thrown l D z q (aa 29) 1 (aa 30) (aa 31) (aa 32) (aa 33) (aa 34) (aa 35) (aa 36) (aa 37) (aa 38) (aa 39) (aa 40) pl ct ti sh ia pr ltM tyM zz po ml me ek ef wt wh sn kpM dy) (cwV 0 hts gL_law_X7_thrown rfl rfl rfl hd_X7_thrown ⟨Nat.le_of_ble_eq_true rfl, Nat.le_of_ble_eq_true rfl⟩) hE hS hA hP [29, 30, 31, 32, 33, 34, 35, 36, 37, 38, 39, 40] rfl rfl rfl rfl rfl hl.1 rfl (Nat.le_of_ble_eq_true rfl) dL_law_586 ⟨(by show 60 + 8 * i + 3 + 0 ≤ 601024; omega), (by show 4000 + 40 * i + 18 + 0 ≤ 7293034; omega)⟩ ?_
    refine lv_iload hx hb dL_law_589 (lv_at hl 1 rfl) ?_
    refine lv_icmp_eq (tgt := 596) hx hb dL_law_591 (by decide) (fun _ => ?_) (fun c_1 => absurd (by decide) c_1)
    refine lv_iload hx hb dL_law_596 (lv_at hl 1 rfl) ?_
    refine lv_if_ne (tgt := 613) hx hb dL_law_598 (by decide) (fun _ => ?_) (fun c_2 => absurd c_2 (by decide))
    refine lv_goto (tgt := 1466) hx hb dL_law_613 (by decide) ?_
    exact W.widen (by omega) (by omega) (next pl lo ct ti sh pr ia lt ty kp ek ef ltM tyM kpM wt wh zz po me ml sn dy 1 ov H locs (INV_mono hI) hP hD hS ls (lv_sub hl [2, 3, 4, 5, 6] rfl))
  · refine lv_aload_n hx hb dL_law_560 rfl (lv_at hl 1 rfl) ?_
    refine lv_aload_n hx hb dL_law_561 rfl (lv_at hl 0 rfl) ?_
    refine lv_iload hx hb dL_law_562 (lv_at hl 4 rfl) ?_
    refine lv_iconst (v := 1) hx hb dL_law_564 (by decide) ?_
    refine lv_iadd hx hb dL_law_565 ?_
    refine mSld hx hb hX hbl hbA hS (show vp_in (nI (4 * i) + 1) L from in4 (k := 1) (by omega) hL) hv1 dL_law_566 ?_
    refine lv_aload_n hx hb dL_law_567 rfl (lv_at hl 3 rfl) ?_
    refine hwS (As := [.ref (aa 0), .int v1, .ref (aa 41)]) (rest := []) ⟨hx, hb, hml, hown, hts⟩ (c_L_wantedAt_1 l D z q (aa 0) (aa 1) (aa 6) (aa 15) (aa 17) (aa 22) (aa 25) (aa 27) dy (aa 18) (aa 19) (aa 20) (aa 21) lt ty zz po me ml v1 (aa 41) ov H.size e0 hlt) (vx_cwSW 3 hts gL_law_L_wantedAt rfl rfl rfl hd_L_wantedAt.2 ⟨Nat.le_of_ble_eq_true rfl, Nat.le_of_ble_eq_true rfl⟩) hE hS hA hP hD [0, 17, 18, 19, 20, 21, 41] rfl rfl rfl rfl hl.1 rfl (Nat.le_of_ble_eq_true rfl) dL_law_568 ⟨(by show 60 + 8 * i + 3 ≤ 601024; omega), (by show 4000 + 40 * i + 18 ≤ 7293034; omega)⟩ (fun H locs hP hD hS => ?_)
    have hP : va_P D vwCl (lawW z aa pl lo ct ti sh pr ia lt ty kp ek ef wt wh zz po me ml sn dy pl ct ti sh pr ia ltM tyM kpM ek ef wt wh zz po me ml sn dy th (vp_updL ov (0 : Int32).toNatClampNeg (tAt lt zz v1).toInt64)) H := hP
    have hD : va_D (fun x : Nat => s.heap.size ≤ x) (lawW z aa pl lo ct ti sh pr ia lt ty kp ek ef wt wh zz po me ml sn dy pl ct ti sh pr ia ltM tyM kpM ek ef wt wh zz po me ml sn dy th (vp_updL ov (0 : Int32).toNatClampNeg (tAt lt zz v1).toInt64)) := hD
    refine lv_istore (lv' := [(5, .int 0), (0, .ref b), (1, .ref (aa 0)), (2, .ref (aa 29)), (3, .ref (aa 41)), (4, .int (nI (4 * i)))]) hx hb dL_law_571 hl (by decide) rfl (fun ls hl => ?_)
    refine lv_aload_n hx hb dL_law_573 rfl (lv_at hl 3 rfl) ?_
    refine lv_aload_n hx hb dL_law_574 rfl (lv_at hl 1 rfl) ?_
    refine lv_iload hx hb dL_law_575 (lv_at hl 5 rfl) ?_
    refine lv_iconst (v := 1) hx hb dL_law_577 (by decide) ?_
    refine lv_iadd hx hb dL_law_578 ?_
    refine mSld hx hb hX hbl hbA hS (show vp_in (nI (4 * i) + 1) L from in4 (k := 1) (by omega) hL) hv1 dL_law_579 ?_
    refine wrVi (As := [.int v1]) (rest := []) ⟨hx, hb, hml, hown, hts⟩ (c_X7_wantedAt_ok l D z q (aa 29) th (aa 30) (aa 31) (aa 32) (aa 33) (aa 34) (aa 35) (aa 36) (aa 37) (aa 38) (aa 39) (aa 40) pl ct ti sh ia pr ltM tyM zz po ml me ek ef wt wh sn kpM dy v1 H.size e0 (at_rel hzz hz40 hlt9 e0).1) (cwV 1 hts gL_law_X7_wantedAt rfl rfl rfl hd_X7_wantedAt ⟨Nat.le_of_ble_eq_true rfl, Nat.le_of_ble_eq_true rfl⟩) hE hS hA hP hD [29, 30, 31, 32, 33, 34, 35, 36, 37, 38, 39, 40] rfl rfl rfl rfl rfl rfl rfl hl.1 rfl (Nat.le_of_ble_eq_true rfl) dL_law_580 ⟨(by show 60 + 8 * i + 3 + 0 ≤ 601024; omega), (by show 4000 + 40 * i + 18 + 0 ≤ 7293034; omega)⟩ (fun H locs hP hD hS => ?_)
    have hP : va_P D vwCl (lawW z aa pl lo ct ti sh pr ia lt ty kp ek ef wt wh zz po me ml sn dy pl ct ti sh pr ia ltM tyM kpM ek ef wt wh zz po me ml sn dy 0 (vp_updL ov (0 : Int32).toNatClampNeg (tAt lt zz v1).toInt64)) H := hP
    have hD : va_D (fun x : Nat => s.heap.size ≤ x) (lawW z aa pl lo ct ti sh pr ia lt ty kp ek ef wt wh zz po me ml sn dy pl ct ti sh pr ia ltM tyM kpM ek ef wt wh zz po me ml sn dy 0 (vp_updL ov (0 : Int32).toNatClampNeg (tAt lt zz v1).toInt64)) := hD
    refine lv_istore (lv' := [(6, .int (cAt 40 ltM v1)), (5, .int 0), (0, .ref b), (1, .ref (aa 0)), (2, .ref (aa 29)), (3, .ref (aa 41)), (4, .int (nI (4 * i)))]) hx hb dL_law_583 hl (by decide) rfl (fun ls hl => ?_)
    refine lv_aload_n hx hb dL_law_585 rfl (lv_at hl 4 rfl) ?_
    refine rdV (As := []) (rest := []) ⟨hx, hb, hml, hown, hts⟩ (c_X7_thrown l D z q (aa 29) 0 (aa 30) (aa 31) (aa 32) (aa 33) (aa 34) (aa 35) (aa 36) (aa 37) (aa 38) (aa 39) (aa 40) pl ct ti sh ia pr ltM tyM zz po ml me ek ef wt wh sn kpM dy) (cwV 0 hts gL_law_X7_thrown rfl rfl rfl hd_X7_thrown ⟨Nat.le_of_ble_eq_true rfl, Nat.le_of_ble_eq_true rfl⟩) hE hS hA hP [29, 30, 31, 32, 33, 34, 35, 36, 37, 38, 39, 40] rfl rfl rfl rfl rfl hl.1 rfl (Nat.le_of_ble_eq_true rfl) dL_law_586 ⟨(by show 60 + 8 * i + 3 + 0 ≤ 601024; omega), (by show 4000 + 40 * i + 18 + 0 ≤ 7293034; omega)⟩ ?_
    refine lv_iload hx hb dL_law_589 (lv_at hl 1 rfl) ?_
    refine lv_icmp_eq (tgt := 596) hx hb dL_law_591 (by decide) (fun _ => ?_) (fun c_1 => absurd (by decide) c_1)
    refine lv_iload hx hb dL_law_596 (lv_at hl 1 rfl) ?_
    refine lv_if_ne (tgt := 613) hx hb dL_law_598 (by decide) (fun c_2 => absurd (by decide) c_2) (fun _ => ?_)
    refine lv_aload_n hx hb dL_law_601 rfl (lv_at hl 5 rfl) ?_
    refine lv_iconst (v := 0) hx hb dL_law_602 (by decide) ?_
    refine va_lald hx hb hK hP 41 2 rfl rfl in0 dL_law_603 ?_
    refine lv_iload hx hb dL_law_604 (lv_at hl 0 rfl) ?_
    refine lv_i2l (v := (cAt 40 ltM v1).toInt64) hx hb dL_law_606 rfl ?_
    refine W.lcmp hx hb dL_law_607 ?_
    refine lv_if_eq (tgt := 613) hx hb dL_law_608 (by decide) (fun _ => ?_) (fun c_3 => absurd (lgu (congrArg Int32.toInt64 ((at_rel hzz hz40 hlt9 e0).2))) c_3)
    refine lv_goto (tgt := 1466) hx hb dL_law_613 (by decide) ?_
    exact W.widen (by omega) (by omega) (next pl lo ct ti sh pr ia lt ty kp ek ef ltM tyM kpM wt wh zz po me ml sn dy 0 (vp_updL ov (0 : Int32).toNatClampNeg (tAt lt zz v1).toInt64) H locs (INV_mono hI) hP hD hS ls (lv_sub hl [2, 3, 4, 5, 6] rfl))
set_option maxHeartbeats 4000000 in
set_option maxRecDepth 100000 in
theorem law_8 {p : Program} {l : Launch} {e : Env} {s : State} {m : MethodId} {below : List Frame} {meth : Method} {c : Code} {D : va_G} {z : Nat → ClassId} {q aa : Nat → Nat} {b L : Nat} {xs : Nat → Int32} {i : Nat} (G : LG p l e s m below meth c D z q b L xs) (h4 : 4 * i + 4 ≤ L) (next : LAW p l e s m below meth c D z aa b 1466 (i + 1) i) : LAW p l e s m below meth c D z aa b 616 i i := by
  obtain ⟨hx, hb, hml, hown, hts, hX, hbl, hE, hlt, hL⟩ := G
  have hi5 : i < 512 := by omega
  have hbA : ¬ (fun x : Nat => s.heap.size ≤ x) b := Nat.not_le_of_lt hbl
  have hA : ∀ x : Nat, s.heap.size ≤ x → (fun x : Nat => s.heap.size ≤ x) x := fun _ h => h
  have hK := hE.1
  intro pl lo ct ti sh pr ia lt ty kp ek ef ltM tyM kpM wt wh zz po me ml sn dy th ov H locs hI hP hD hS ls hl
  have ⟨hB, hPR, hIO, ⟨zn, hzz, hz40, hlt9, ps, hpo, hps, hty⟩, ⟨mn, hml9, hmn⟩, ⟨sk, hsn, hsk, hkp⟩⟩ := hI
  refine lv_aload_n hx hb dL_law_616 rfl (lv_at hl 1 rfl) ?_
  refine rdV (As := []) (rest := []) ⟨hx, hb, hml, hown, hts⟩ (c_X6_position l D z q (aa 0) (aa 1) (aa 6) (aa 15) (aa 17) (aa 22) (aa 25) (aa 27) dy (aa 18) (aa 19) (aa 20) (aa 21) lt ty zz po me ml) (cwV 0 hts gL_law_X6_position rfl rfl rfl hd_X6_position ⟨Nat.le_of_ble_eq_true rfl, Nat.le_of_ble_eq_true rfl⟩) hE hS hA hP [0, 17, 18, 19, 20, 21] rfl rfl rfl rfl rfl hl.1 rfl (Nat.le_of_ble_eq_true rfl) dL_law_617 ⟨(by show 60 + 8 * i + 0 ≤ 601024; omega), (by show 4000 + 40 * i + 0 ≤ 7293034; omega)⟩ ?_
  refine lv_aload_n hx hb dL_law_620 rfl (lv_at hl 2 rfl) ?_
  refine wrVi (As := []) (rest := [.int po]) ⟨hx, hb, hml, hown, hts⟩ (c_X7_position l D z q (aa 29) th (aa 30) (aa 31) (aa 32) (aa 33) (aa 34) (aa 35) (aa 36) (aa 37) (aa 38) (aa 39) (aa 40) pl ct ti sh ia pr ltM tyM zz po ml me ek ef wt wh sn kpM dy H.size) (cwV 0 hts gL_law_X7_position rfl rfl rfl hd_X7_position ⟨Nat.le_of_ble_eq_true rfl, Nat.le_of_ble_eq_true rfl⟩) hE hS hA hP hD [29, 30, 31, 32, 33, 34, 35, 36, 37, 38, 39, 40] rfl rfl rfl rfl rfl rfl rfl hl.1 rfl (Nat.le_of_ble_eq_true rfl) dL_law_621 ⟨(by show 60 + 8 * i + 0 ≤ 601024; omega), (by show 4000 + 40 * i + 0 ≤ 7293034; omega)⟩ (fun H locs hP hD hS => ?_)
  have hP : va_P D vwCl (lawW z aa pl lo ct ti sh pr ia lt ty kp ek ef wt wh zz po me ml sn dy pl ct ti sh pr ia ltM tyM kpM ek ef wt wh zz po me ml sn dy 0 ov) H := hP
  have hD : va_D (fun x : Nat => s.heap.size ≤ x) (lawW z aa pl lo ct ti sh pr ia lt ty kp ek ef wt wh zz po me ml sn dy pl ct ti sh pr ia ltM tyM kpM ek ef wt wh zz po me ml sn dy 0 ov) := hD
  refine lv_icmp_eq (tgt := 1466) hx hb dL_law_624 (by decide) (fun _ => ?_) (fun c_1 => absurd (rfl) c_1)
  exact W.widen (by omega) (by omega) (next pl lo ct ti sh pr ia lt ty kp ek ef ltM tyM kpM wt wh zz po me ml sn dy 0 ov H locs (INV_mono hI) hP hD hS ls (lv_sub hl [0, 1, 2, 3, 4] rfl))
set_option maxHeartbeats 4000000 in
set_option maxRecDepth 100000 in
theorem law_9 {p : Program} {l : Launch} {e : Env} {s : State} {m : MethodId} {below : List Frame} {meth : Method} {c : Code} {D : va_G} {z : Nat → ClassId} {q aa : Nat → Nat} {b L : Nat} {xs : Nat → Int32} {i : Nat} (G : LG p l e s m below meth c D z q b L xs) (h4 : 4 * i + 4 ≤ L) (next : LAW p l e s m below meth c D z aa b 1466 (i + 1) i) : LAW p l e s m below meth c D z aa b 629 i i := by
  obtain ⟨hx, hb, hml, hown, hts, hX, hbl, hE, hlt, hL⟩ := G
  have hi5 : i < 512 := by omega
  have hbA : ¬ (fun x : Nat => s.heap.size ≤ x) b := Nat.not_le_of_lt hbl
  have hA : ∀ x : Nat, s.heap.size ≤ x → (fun x : Nat => s.heap.size ≤ x) x := fun _ h => h
  have hK := hE.1
  intro pl lo ct ti sh pr ia lt ty kp ek ef ltM tyM kpM wt wh zz po me ml sn dy th ov H locs hI hP hD hS ls hl
  have ⟨hB, hPR, hIO, ⟨zn, hzz, hz40, hlt9, ps, hpo, hps, hty⟩, ⟨mn, hml9, hmn⟩, ⟨sk, hsn, hsk, hkp⟩⟩ := hI
  obtain ⟨v1, hv1⟩ : ∃ v, v = xs (nI (4 * i) + 1).toNatClampNeg := ⟨_, rfl⟩
  obtain ⟨v2, hv2⟩ : ∃ v, v = xs (nI (4 * i) + 2).toNatClampNeg := ⟨_, rfl⟩
  by_cases e0 : bW v1 0 25 = 0
  · refine lv_aload_n hx hb dL_law_629 rfl (lv_at hl 1 rfl) ?_
    refine lv_aload_n hx hb dL_law_630 rfl (lv_at hl 0 rfl) ?_
    refine lv_iload hx hb dL_law_631 (lv_at hl 4 rfl) ?_
    refine lv_iconst (v := 1) hx hb dL_law_633 (by decide) ?_
    refine lv_iadd hx hb dL_law_634 ?_
    refine mSld hx hb hX hbl hbA hS (show vp_in (nI (4 * i) + 1) L from in4 (k := 1) (by omega) hL) hv1 dL_law_635 ?_
    refine lv_aload_n hx hb dL_law_636 rfl (lv_at hl 0 rfl) ?_
    refine lv_iload hx hb dL_law_637 (lv_at hl 4 rfl) ?_
    refine lv_iconst (v := 2) hx hb dL_law_639 (by decide) ?_
    refine lv_iadd hx hb dL_law_640 ?_
    refine mSld hx hb hX hbl hbA hS (show vp_in (nI (4 * i) + 2) L from in4 (k := 2) (by omega) hL) hv2 dL_law_641 ?_
    refine lv_aload_n hx hb dL_law_642 rfl (lv_at hl 3 rfl) ?_
    refine hwS (As := [.ref (aa 0), .int v1, .int v2, .ref (aa 41)]) (rest := []) ⟨hx, hb, hml, hown, hts⟩ (c_L_stroke_0 l D z q (aa 0) (aa 1) (aa 6) (aa 15) (aa 17) (aa 22) (aa 25) (aa 27) dy (aa 2) (aa 3) (aa 4) (aa 5) pl lo (aa 7) (aa 8) (aa 9) (aa 10) (aa 11) (aa 12) (aa 13) (aa 14) ct ti sh pr wt wh (aa 18) (aa 19) (aa 20) (aa 21) lt ty zz po me ml (aa 26) ek (aa 28) ef v1 v2 (aa 41) ov H.size e0 hlt) (vx_cwSW 4 hts gL_law_L_stroke rfl rfl rfl hd_L_stroke.2 ⟨Nat.le_of_ble_eq_true rfl, Nat.le_of_ble_eq_true rfl⟩) hE hS hA hP hD [0, 1, 2, 3, 4, 5, 6, 7, 8, 9, 10, 11, 12, 13, 14, 17, 18, 19, 20, 21, 25, 26, 27, 28, 41] rfl rfl rfl rfl hl.1 rfl (Nat.le_of_ble_eq_true rfl) dL_law_643 ⟨(by show 60 + 8 * i + 3 ≤ 601024; omega), (by show 4000 + 40 * i + 18 ≤ 7293034; omega)⟩ (fun H locs hP hD hS => ?_)
    have hP : va_P D vwCl (lawW z aa pl lo ct ti sh pr ia lt ty kp ek ef wt wh zz po me ml sn dy pl ct ti sh pr ia ltM tyM kpM ek ef wt wh zz po me ml sn dy th ov) H := hP
    have hD : va_D (fun x : Nat => s.heap.size ≤ x) (lawW z aa pl lo ct ti sh pr ia lt ty kp ek ef wt wh zz po me ml sn dy pl ct ti sh pr ia ltM tyM kpM ek ef wt wh zz po me ml sn dy th ov) := hD
    refine lv_istore (lv' := [(5, .int 1), (0, .ref b), (1, .ref (aa 0)), (2, .ref (aa 29)), (3, .ref (aa 41)), (4, .int (nI (4 * i)))]) hx hb dL_law_646 hl (by decide) rfl (fun ls hl => ?_)
    refine lv_aload_n hx hb dL_law_648 rfl (lv_at hl 3 rfl) ?_
    refine lv_aload_n hx hb dL_law_649 rfl (lv_at hl 1 rfl) ?_
    refine lv_iload hx hb dL_law_650 (lv_at hl 5 rfl) ?_
    refine lv_iconst (v := 1) hx hb dL_law_652 (by decide) ?_
    refine lv_iadd hx hb dL_law_653 ?_
    refine mSld hx hb hX hbl hbA hS (show vp_in (nI (4 * i) + 1) L from in4 (k := 1) (by omega) hL) hv1 dL_law_654 ?_
    refine lv_aload_n hx hb dL_law_655 rfl (lv_at hl 1 rfl) ?_
    refine lv_iload hx hb dL_law_656 (lv_at hl 5 rfl) ?_
    refine lv_iconst (v := 2) hx hb dL_law_658 (by decide) ?_
    refine lv_iadd hx hb dL_law_659 ?_
    refine mSld hx hb hX hbl hbA hS (show vp_in (nI (4 * i) + 2) L from in4 (k := 2) (by omega) hL) hv2 dL_law_660 ?_
    refine wrVi (As := [.int v1, .int v2]) (rest := []) ⟨hx, hb, hml, hown, hts⟩ (c_X7_stroke_b0 l D z q (aa 29) th (aa 30) (aa 31) (aa 32) (aa 33) (aa 34) (aa 35) (aa 36) (aa 37) (aa 38) (aa 39) (aa 40) pl ct ti sh ia pr ltM tyM zz po ml me ek ef wt wh sn kpM dy v1 v2 H.size e0) (cwV 2 hts gL_law_X7_stroke rfl rfl rfl hd_X7_stroke ⟨Nat.le_of_ble_eq_true rfl, Nat.le_of_ble_eq_true rfl⟩) hE hS hA hP hD [29, 30, 31, 32, 33, 34, 35, 36, 37, 38, 39, 40] rfl rfl rfl rfl rfl rfl rfl hl.1 rfl (Nat.le_of_ble_eq_true rfl) dL_law_661 ⟨(by show 60 + 8 * i + 3 + 0 ≤ 601024; omega), (by show 4000 + 40 * i + 18 + 0 ≤ 7293034; omega)⟩ (fun H locs hP hD hS => ?_)
    have hP : va_P D vwCl (lawW z aa pl lo ct ti sh pr ia lt ty kp ek ef wt wh zz po me ml sn dy pl ct ti sh pr ia ltM tyM kpM ek ef wt wh zz po me ml sn dy 1 ov) H := hP
    have hD : va_D (fun x : Nat => s.heap.size ≤ x) (lawW z aa pl lo ct ti sh pr ia lt ty kp ek ef wt wh zz po me ml sn dy pl ct ti sh pr ia ltM tyM kpM ek ef wt wh zz po me ml sn dy 1 ov) := hD
    refine lv_istore (lv' := [(6, .int 0), (5, .int 1), (0, .ref b), (1, .ref (aa 0)), (2, .ref (aa 29)), (3, .ref (aa 41)), (4, .int (nI (4 * i)))]) hx hb dL_law_664 hl (by decide) rfl (fun ls hl => ?_)
    refine lv_aload_n hx hb dL_law_666 rfl (lv_at hl 4 rfl) ?_
    refine rdV (As := []) (rest := []) ⟨hx, hb, hml, hown, hts⟩ (c_X7_thrown l D z q (aa 29) 1 (aa 30) (aa 31) (aa 32) (aa 33) (aa 34) (aa 35) (aa 36) (aa 37) (aa 38) (aa 39) (aa 40) pl ct ti sh ia pr ltM tyM zz po ml me ek ef wt wh sn kpM dy) (cwV 0 hts gL_law_X7_thrown rfl rfl rfl hd_X7_thrown ⟨Nat.le_of_ble_eq_true rfl, Nat.le_of_ble_eq_true rfl⟩) hE hS hA hP [29, 30, 31, 32, 33, 34, 35, 36, 37, 38, 39, 40] rfl rfl rfl rfl rfl hl.1 rfl (Nat.le_of_ble_eq_true rfl) dL_law_667 ⟨(by show 60 + 8 * i + 3 + 0 ≤ 601024; omega), (by show 4000 + 40 * i + 18 + 0 ≤ 7293034; omega)⟩ ?_
    refine lv_iload hx hb dL_law_670 (lv_at hl 1 rfl) ?_
    refine lv_icmp_eq (tgt := 677) hx hb dL_law_672 (by decide) (fun _ => ?_) (fun c_1 => absurd (by decide) c_1)
    refine lv_iload hx hb dL_law_677 (lv_at hl 1 rfl) ?_
    refine lv_if_ne (tgt := 694) hx hb dL_law_679 (by decide) (fun _ => ?_) (fun c_2 => absurd c_2 (by decide))
    refine lv_goto (tgt := 1466) hx hb dL_law_694 (by decide) ?_
    exact W.widen (by omega) (by omega) (next pl lo ct ti sh pr ia lt ty kp ek ef ltM tyM kpM wt wh zz po me ml sn dy 1 ov H locs (INV_mono hI) hP hD hS ls (lv_sub hl [2, 3, 4, 5, 6] rfl))
  · by_cases e1 : bW v2 1 5000 = 0
    · refine lv_aload_n hx hb dL_law_629 rfl (lv_at hl 1 rfl) ?_
      refine lv_aload_n hx hb dL_law_630 rfl (lv_at hl 0 rfl) ?_
      refine lv_iload hx hb dL_law_631 (lv_at hl 4 rfl) ?_
      refine lv_iconst (v := 1) hx hb dL_law_633 (by decide) ?_
      refine lv_iadd hx hb dL_law_634 ?_
      refine mSld hx hb hX hbl hbA hS (show vp_in (nI (4 * i) + 1) L from in4 (k := 1) (by omega) hL) hv1 dL_law_635 ?_
      refine lv_aload_n hx hb dL_law_636 rfl (lv_at hl 0 rfl) ?_
      refine lv_iload hx hb dL_law_637 (lv_at hl 4 rfl) ?_
      refine lv_iconst (v := 2) hx hb dL_law_639 (by decide) ?_
      refine lv_iadd hx hb dL_law_640 ?_
      refine mSld hx hb hX hbl hbA hS (show vp_in (nI (4 * i) + 2) L from in4 (k := 2) (by omega) hL) hv2 dL_law_641 ?_
      refine lv_aload_n hx hb dL_law_642 rfl (lv_at hl 3 rfl) ?_
      refine hwS (As := [.ref (aa 0), .int v1, .int v2, .ref (aa 41)]) (rest := []) ⟨hx, hb, hml, hown, hts⟩ (c_L_stroke_1 l D z q (aa 0) (aa 1) (aa 6) (aa 15) (aa 17) (aa 22) (aa 25) (aa 27) dy (aa 2) (aa 3) (aa 4) (aa 5) pl lo (aa 7) (aa 8) (aa 9) (aa 10) (aa 11) (aa 12) (aa 13) (aa 14) ct ti sh pr wt wh (aa 18) (aa 19) (aa 20) (aa 21) lt ty zz po me ml (aa 26) ek (aa 28) ef v1 v2 (aa 41) ov H.size e0 e1 hlt) (vx_cwSW 4 hts gL_law_L_stroke rfl rfl rfl hd_L_stroke.2 ⟨Nat.le_of_ble_eq_true rfl, Nat.le_of_ble_eq_true rfl⟩) hE hS hA hP hD [0, 1, 2, 3, 4, 5, 6, 7, 8, 9, 10, 11, 12, 13, 14, 17, 18, 19, 20, 21, 25, 26, 27, 28, 41] rfl rfl rfl rfl hl.1 rfl (Nat.le_of_ble_eq_true rfl) dL_law_643 ⟨(by show 60 + 8 * i + 3 ≤ 601024; omega), (by show 4000 + 40 * i + 18 ≤ 7293034; omega)⟩ (fun H locs hP hD hS => ?_)
      have hP : va_P D vwCl (lawW z aa pl lo ct ti sh pr ia lt ty kp ek ef wt wh zz po me ml sn dy pl ct ti sh pr ia ltM tyM kpM ek ef wt wh zz po me ml sn dy th ov) H := hP
      have hD : va_D (fun x : Nat => s.heap.size ≤ x) (lawW z aa pl lo ct ti sh pr ia lt ty kp ek ef wt wh zz po me ml sn dy pl ct ti sh pr ia ltM tyM kpM ek ef wt wh zz po me ml sn dy th ov) := hD
      refine lv_istore (lv' := [(5, .int 2), (0, .ref b), (1, .ref (aa 0)), (2, .ref (aa 29)), (3, .ref (aa 41)), (4, .int (nI (4 * i)))]) hx hb dL_law_646 hl (by decide) rfl (fun ls hl => ?_)
      refine lv_aload_n hx hb dL_law_648 rfl (lv_at hl 3 rfl) ?_
      refine lv_aload_n hx hb dL_law_649 rfl (lv_at hl 1 rfl) ?_
      refine lv_iload hx hb dL_law_650 (lv_at hl 5 rfl) ?_
      refine lv_iconst (v := 1) hx hb dL_law_652 (by decide) ?_
      refine lv_iadd hx hb dL_law_653 ?_
      refine mSld hx hb hX hbl hbA hS (show vp_in (nI (4 * i) + 1) L from in4 (k := 1) (by omega) hL) hv1 dL_law_654 ?_
      refine lv_aload_n hx hb dL_law_655 rfl (lv_at hl 1 rfl) ?_
      refine lv_iload hx hb dL_law_656 (lv_at hl 5 rfl) ?_
      refine lv_iconst (v := 2) hx hb dL_law_658 (by decide) ?_
      refine lv_iadd hx hb dL_law_659 ?_
      refine mSld hx hb hX hbl hbA hS (show vp_in (nI (4 * i) + 2) L from in4 (k := 2) (by omega) hL) hv2 dL_law_660 ?_
      refine wrVi (As := [.int v1, .int v2]) (rest := []) ⟨hx, hb, hml, hown, hts⟩ (c_X7_stroke_b1 l D z q (aa 29) th (aa 30) (aa 31) (aa 32) (aa 33) (aa 34) (aa 35) (aa 36) (aa 37) (aa 38) (aa 39) (aa 40) pl ct ti sh ia pr ltM tyM zz po ml me ek ef wt wh sn kpM dy v1 v2 H.size e0 e1) (cwV 2 hts gL_law_X7_stroke rfl rfl rfl hd_X7_stroke ⟨Nat.le_of_ble_eq_true rfl, Nat.le_of_ble_eq_true rfl⟩) hE hS hA hP hD [29, 30, 31, 32, 33, 34, 35, 36, 37, 38, 39, 40] rfl rfl rfl rfl rfl rfl rfl hl.1 rfl (Nat.le_of_ble_eq_true rfl) dL_law_661 ⟨(by show 60 + 8 * i + 3 + 0 ≤ 601024; omega), (by show 4000 + 40 * i + 18 + 0 ≤ 7293034; omega)⟩ (fun H locs hP hD hS => ?_)
      have hP : va_P D vwCl (lawW z aa pl lo ct ti sh pr ia lt ty kp ek ef wt wh zz po me ml sn dy pl ct ti sh pr ia ltM tyM kpM ek ef wt wh zz po me ml sn dy 2 ov) H := hP
      have hD : va_D (fun x : Nat => s.heap.size ≤ x) (lawW z aa pl lo ct ti sh pr ia lt ty kp ek ef wt wh zz po me ml sn dy pl ct ti sh pr ia ltM tyM kpM ek ef wt wh zz po me ml sn dy 2 ov) := hD
      refine lv_istore (lv' := [(6, .int 0), (5, .int 2), (0, .ref b), (1, .ref (aa 0)), (2, .ref (aa 29)), (3, .ref (aa 41)), (4, .int (nI (4 * i)))]) hx hb dL_law_664 hl (by decide) rfl (fun ls hl => ?_)
      refine lv_aload_n hx hb dL_law_666 rfl (lv_at hl 4 rfl) ?_
      refine rdV (As := []) (rest := []) ⟨hx, hb, hml, hown, hts⟩ (c_X7_thrown l D z q (aa 29) 2 (aa 30) (aa 31) (aa 32) (aa 33) (aa 34) (aa 35) (aa 36) (aa 37) (aa 38) (aa 39) (aa 40) pl ct ti sh ia pr ltM tyM zz po ml me ek ef wt wh sn kpM dy) (cwV 0 hts gL_law_X7_thrown rfl rfl rfl hd_X7_thrown ⟨Nat.le_of_ble_eq_true rfl, Nat.le_of_ble_eq_true rfl⟩) hE hS hA hP [29, 30, 31, 32, 33, 34, 35, 36, 37, 38, 39, 40] rfl rfl rfl rfl rfl hl.1 rfl (Nat.le_of_ble_eq_true rfl) dL_law_667 ⟨(by show 60 + 8 * i + 3 + 0 ≤ 601024; omega), (by show 4000 + 40 * i + 18 + 0 ≤ 7293034; omega)⟩ ?_
      refine lv_iload hx hb dL_law_670 (lv_at hl 1 rfl) ?_
      refine lv_icmp_eq (tgt := 677) hx hb dL_law_672 (by decide) (fun _ => ?_) (fun c_1 => absurd (by decide) c_1)
      refine lv_iload hx hb dL_law_677 (lv_at hl 1 rfl) ?_
      refine lv_if_ne (tgt := 694) hx hb dL_law_679 (by decide) (fun _ => ?_) (fun c_2 => absurd c_2 (by decide))
      refine lv_goto (tgt := 1466) hx hb dL_law_694 (by decide) ?_
      exact W.widen (by omega) (by omega) (next pl lo ct ti sh pr ia lt ty kp ek ef ltM tyM kpM wt wh zz po me ml sn dy 2 ov H locs (INV_mono hI) hP hD hS ls (lv_sub hl [2, 3, 4, 5, 6] rfl))
    · by_cases e2 : tAt lt zz po = -1
      · refine lv_aload_n hx hb dL_law_629 rfl (lv_at hl 1 rfl) ?_
        refine lv_aload_n hx hb dL_law_630 rfl (lv_at hl 0 rfl) ?_
        refine lv_iload hx hb dL_law_631 (lv_at hl 4 rfl) ?_
        refine lv_iconst (v := 1) hx hb dL_law_633 (by decide) ?_
        refine lv_iadd hx hb dL_law_634 ?_
        refine mSld hx hb hX hbl hbA hS (show vp_in (nI (4 * i) + 1) L from in4 (k := 1) (by omega) hL) hv1 dL_law_635 ?_
        refine lv_aload_n hx hb dL_law_636 rfl (lv_at hl 0 rfl) ?_
        refine lv_iload hx hb dL_law_637 (lv_at hl 4 rfl) ?_
        refine lv_iconst (v := 2) hx hb dL_law_639 (by decide) ?_
        refine lv_iadd hx hb dL_law_640 ?_
        refine mSld hx hb hX hbl hbA hS (show vp_in (nI (4 * i) + 2) L from in4 (k := 2) (by omega) hL) hv2 dL_law_641 ?_
        refine lv_aload_n hx hb dL_law_642 rfl (lv_at hl 3 rfl) ?_
        refine hwS (As := [.ref (aa 0), .int v1, .int v2, .ref (aa 41)]) (rest := []) ⟨hx, hb, hml, hown, hts⟩ (c_L_stroke_2 l D z q (aa 0) (aa 1) (aa 6) (aa 15) (aa 17) (aa 22) (aa 25) (aa 27) dy (aa 2) (aa 3) (aa 4) (aa 5) pl lo (aa 7) (aa 8) (aa 9) (aa 10) (aa 11) (aa 12) (aa 13) (aa 14) ct ti sh pr wt wh (aa 18) (aa 19) (aa 20) (aa 21) lt ty zz po me ml (aa 26) ek (aa 28) ef v1 v2 (aa 41) ov H.size e0 e1 e2 hlt) (vx_cwSW 4 hts gL_law_L_stroke rfl rfl rfl hd_L_stroke.2 ⟨Nat.le_of_ble_eq_true rfl, Nat.le_of_ble_eq_true rfl⟩) hE hS hA hP hD [0, 1, 2, 3, 4, 5, 6, 7, 8, 9, 10, 11, 12, 13, 14, 17, 18, 19, 20, 21, 25, 26, 27, 28, 41] rfl rfl rfl rfl hl.1 rfl (Nat.le_of_ble_eq_true rfl) dL_law_643 ⟨(by show 60 + 8 * i + 3 ≤ 601024; omega), (by show 4000 + 40 * i + 18 ≤ 7293034; omega)⟩ (fun H locs hP hD hS => ?_)
        have hP : va_P D vwCl (lawW z aa pl lo ct ti sh pr ia lt ty kp ek ef wt wh zz po me ml sn dy pl ct ti sh pr ia ltM tyM kpM ek ef wt wh zz po me ml sn dy th ov) H := hP
        have hD : va_D (fun x : Nat => s.heap.size ≤ x) (lawW z aa pl lo ct ti sh pr ia lt ty kp ek ef wt wh zz po me ml sn dy pl ct ti sh pr ia ltM tyM kpM ek ef wt wh zz po me ml sn dy th ov) := hD
        refine lv_istore (lv' := [(5, .int 3), (0, .ref b), (1, .ref (aa 0)), (2, .ref (aa 29)), (3, .ref (aa 41)), (4, .int (nI (4 * i)))]) hx hb dL_law_646 hl (by decide) rfl (fun ls hl => ?_)
        refine lv_aload_n hx hb dL_law_648 rfl (lv_at hl 3 rfl) ?_
        refine lv_aload_n hx hb dL_law_649 rfl (lv_at hl 1 rfl) ?_
        refine lv_iload hx hb dL_law_650 (lv_at hl 5 rfl) ?_
        refine lv_iconst (v := 1) hx hb dL_law_652 (by decide) ?_
        refine lv_iadd hx hb dL_law_653 ?_
        refine mSld hx hb hX hbl hbA hS (show vp_in (nI (4 * i) + 1) L from in4 (k := 1) (by omega) hL) hv1 dL_law_654 ?_
        refine lv_aload_n hx hb dL_law_655 rfl (lv_at hl 1 rfl) ?_
        refine lv_iload hx hb dL_law_656 (lv_at hl 5 rfl) ?_
        refine lv_iconst (v := 2) hx hb dL_law_658 (by decide) ?_
        refine lv_iadd hx hb dL_law_659 ?_
        refine mSld hx hb hX hbl hbA hS (show vp_in (nI (4 * i) + 2) L from in4 (k := 2) (by omega) hL) hv2 dL_law_660 ?_
        refine wrVi (As := [.int v1, .int v2]) (rest := []) ⟨hx, hb, hml, hown, hts⟩ (c_X7_stroke_b2 l D z q (aa 29) th (aa 30) (aa 31) (aa 32) (aa 33) (aa 34) (aa 35) (aa 36) (aa 37) (aa 38) (aa 39) (aa 40) pl ct ti sh ia pr ltM tyM zz po ml me ek ef wt wh sn kpM dy v1 v2 H.size e0 e1 ((end_iff hzz hz40 hlt9 hpo hps).mp e2)) (cwV 2 hts gL_law_X7_stroke rfl rfl rfl hd_X7_stroke ⟨Nat.le_of_ble_eq_true rfl, Nat.le_of_ble_eq_true rfl⟩) hE hS hA hP hD [29, 30, 31, 32, 33, 34, 35, 36, 37, 38, 39, 40] rfl rfl rfl rfl rfl rfl rfl hl.1 rfl (Nat.le_of_ble_eq_true rfl) dL_law_661 ⟨(by show 60 + 8 * i + 3 + 0 ≤ 601024; omega), (by show 4000 + 40 * i + 18 + 0 ≤ 7293034; omega)⟩ (fun H locs hP hD hS => ?_)
        have hP : va_P D vwCl (lawW z aa pl lo ct ti sh pr ia lt ty kp ek ef wt wh zz po me ml sn dy pl ct ti sh pr ia ltM tyM kpM ek ef wt wh zz po me ml sn dy 3 ov) H := hP
        have hD : va_D (fun x : Nat => s.heap.size ≤ x) (lawW z aa pl lo ct ti sh pr ia lt ty kp ek ef wt wh zz po me ml sn dy pl ct ti sh pr ia ltM tyM kpM ek ef wt wh zz po me ml sn dy 3 ov) := hD
        refine lv_istore (lv' := [(6, .int 0), (5, .int 3), (0, .ref b), (1, .ref (aa 0)), (2, .ref (aa 29)), (3, .ref (aa 41)), (4, .int (nI (4 * i)))]) hx hb dL_law_664 hl (by decide) rfl (fun ls hl => ?_)
        refine lv_aload_n hx hb dL_law_666 rfl (lv_at hl 4 rfl) ?_
        refine rdV (As := []) (rest := []) ⟨hx, hb, hml, hown, hts⟩ (c_X7_thrown l D z q (aa 29) 3 (aa 30) (aa 31) (aa 32) (aa 33) (aa 34) (aa 35) (aa 36) (aa 37) (aa 38) (aa 39) (aa 40) pl ct ti sh ia pr ltM tyM zz po ml me ek ef wt wh sn kpM dy) (cwV 0 hts gL_law_X7_thrown rfl rfl rfl hd_X7_thrown ⟨Nat.le_of_ble_eq_true rfl, Nat.le_of_ble_eq_true rfl⟩) hE hS hA hP [29, 30, 31, 32, 33, 34, 35, 36, 37, 38, 39, 40] rfl rfl rfl rfl rfl hl.1 rfl (Nat.le_of_ble_eq_true rfl) dL_law_667 ⟨(by show 60 + 8 * i + 3 + 0 ≤ 601024; omega), (by show 4000 + 40 * i + 18 + 0 ≤ 7293034; omega)⟩ ?_
        refine lv_iload hx hb dL_law_670 (lv_at hl 1 rfl) ?_
        refine lv_icmp_eq (tgt := 677) hx hb dL_law_672 (by decide) (fun _ => ?_) (fun c_1 => absurd (by decide) c_1)
        refine lv_iload hx hb dL_law_677 (lv_at hl 1 rfl) ?_
        refine lv_if_ne (tgt := 694) hx hb dL_law_679 (by decide) (fun _ => ?_) (fun c_2 => absurd c_2 (by decide))
        refine lv_goto (tgt := 1466) hx hb dL_law_694 (by decide) ?_
        exact W.widen (by omega) (by omega) (next pl lo ct ti sh pr ia lt ty kp ek ef ltM tyM kpM wt wh zz po me ml sn dy 3 ov H locs (INV_mono hI) hP hD hS ls (lv_sub hl [2, 3, 4, 5, 6] rfl))
      · have ⟨⟨hd9, hdu, hdp, hfin, ps2, zn2, hpo2, hzz2, hz42, hpl2⟩, hkk, ⟨q1, q2, q3, q4, q5, q6⟩, hI2⟩ := stroke_rel hI ct ti sh ek ef e0 e1 e2
        have hpl : ps < zn := by rw [nI_inj (by omega) (by omega) (hpo.symm.trans hpo2), nI_inj (by omega) (by omega) (hzz.symm.trans hzz2)]; exact hpl2
        refine lv_aload_n hx hb dL_law_629 rfl (lv_at hl 1 rfl) ?_
        refine lv_aload_n hx hb dL_law_630 rfl (lv_at hl 0 rfl) ?_
        refine lv_iload hx hb dL_law_631 (lv_at hl 4 rfl) ?_
        refine lv_iconst (v := 1) hx hb dL_law_633 (by decide) ?_
        refine lv_iadd hx hb dL_law_634 ?_
        refine mSld hx hb hX hbl hbA hS (show vp_in (nI (4 * i) + 1) L from in4 (k := 1) (by omega) hL) hv1 dL_law_635 ?_
        refine lv_aload_n hx hb dL_law_636 rfl (lv_at hl 0 rfl) ?_
        refine lv_iload hx hb dL_law_637 (lv_at hl 4 rfl) ?_
        refine lv_iconst (v := 2) hx hb dL_law_639 (by decide) ?_
        refine lv_iadd hx hb dL_law_640 ?_
        refine mSld hx hb hX hbl hbA hS (show vp_in (nI (4 * i) + 2) L from in4 (k := 2) (by omega) hL) hv2 dL_law_641 ?_
        refine lv_aload_n hx hb dL_law_642 rfl (lv_at hl 3 rfl) ?_
        refine hwS (As := [.ref (aa 0), .int v1, .int v2, .ref (aa 41)]) (rest := []) ⟨hx, hb, hml, hown, hts⟩ (c_L_stroke_3 l D z q (aa 0) (aa 1) (aa 6) (aa 15) (aa 17) (aa 22) (aa 25) (aa 27) dy (aa 2) (aa 3) (aa 4) (aa 5) pl lo (aa 7) (aa 8) (aa 9) (aa 10) (aa 11) (aa 12) (aa 13) (aa 14) ct ti sh pr wt wh (aa 18) (aa 19) (aa 20) (aa 21) lt ty zz po me ml (aa 26) ek (aa 28) ef v1 v2 (aa 41) ov H.size e0 e1 e2 hlt) (vx_cwSW 4 hts gL_law_L_stroke rfl rfl rfl hd_L_stroke.2 ⟨Nat.le_of_ble_eq_true rfl, Nat.le_of_ble_eq_true rfl⟩) hE hS hA hP hD [0, 1, 2, 3, 4, 5, 6, 7, 8, 9, 10, 11, 12, 13, 14, 17, 18, 19, 20, 21, 25, 26, 27, 28, 41] rfl rfl rfl rfl hl.1 rfl (Nat.le_of_ble_eq_true rfl) dL_law_643 ⟨(by show 60 + 8 * i + 3 ≤ 601024; omega), (by show 4000 + 40 * i + 18 ≤ 7293034; omega)⟩ (fun H locs hP hD hS => ?_)
        have hP : va_P D vwCl (lawW z aa pl lo (cSet 26 ct (tAt lt zz po) (cAt 26 ct (tAt lt zz po) + 1)) (cSet 26 ti (tAt lt zz po) (fAged (cAt 26 ti (tAt lt zz po)) v2)) (cSet 26 sh (tAt lt zz po) (fShr (cAt 26 sh (tAt lt zz po)) (if kKind pl lo lt ty zz po v1 (tAt lt zz po) = -1 then 0 else 1))) (kPr pr lt zz po (tAt lt zz po) v2) ia lt (cSet 40 ty po v1) kp (kErr ek 5 (kKind pl lo lt ty zz po v1 (tAt lt zz po)) (kKind pl lo lt ty zz po v1 (tAt lt zz po))) (kErr ef 8 (kKind pl lo lt ty zz po v1 (tAt lt zz po)) (bFin pl (tAt lt zz po))) wt wh zz (po + 1) me (ml + v2) sn (dy + 1) pl ct ti sh pr ia ltM tyM kpM ek ef wt wh zz po me ml sn dy th (vp_updL ov (0 : Int32).toNatClampNeg (kKind pl lo lt ty zz po v1 (tAt lt zz po)).toInt64)) H := hP
        have hD : va_D (fun x : Nat => s.heap.size ≤ x) (lawW z aa pl lo (cSet 26 ct (tAt lt zz po) (cAt 26 ct (tAt lt zz po) + 1)) (cSet 26 ti (tAt lt zz po) (fAged (cAt 26 ti (tAt lt zz po)) v2)) (cSet 26 sh (tAt lt zz po) (fShr (cAt 26 sh (tAt lt zz po)) (if kKind pl lo lt ty zz po v1 (tAt lt zz po) = -1 then 0 else 1))) (kPr pr lt zz po (tAt lt zz po) v2) ia lt (cSet 40 ty po v1) kp (kErr ek 5 (kKind pl lo lt ty zz po v1 (tAt lt zz po)) (kKind pl lo lt ty zz po v1 (tAt lt zz po))) (kErr ef 8 (kKind pl lo lt ty zz po v1 (tAt lt zz po)) (bFin pl (tAt lt zz po))) wt wh zz (po + 1) me (ml + v2) sn (dy + 1) pl ct ti sh pr ia ltM tyM kpM ek ef wt wh zz po me ml sn dy th (vp_updL ov (0 : Int32).toNatClampNeg (kKind pl lo lt ty zz po v1 (tAt lt zz po)).toInt64)) := hD
        refine lv_istore (lv' := [(5, .int 0), (0, .ref b), (1, .ref (aa 0)), (2, .ref (aa 29)), (3, .ref (aa 41)), (4, .int (nI (4 * i)))]) hx hb dL_law_646 hl (by decide) rfl (fun ls hl => ?_)
        refine lv_aload_n hx hb dL_law_648 rfl (lv_at hl 3 rfl) ?_
        refine lv_aload_n hx hb dL_law_649 rfl (lv_at hl 1 rfl) ?_
        refine lv_iload hx hb dL_law_650 (lv_at hl 5 rfl) ?_
        refine lv_iconst (v := 1) hx hb dL_law_652 (by decide) ?_
        refine lv_iadd hx hb dL_law_653 ?_
        refine mSld hx hb hX hbl hbA hS (show vp_in (nI (4 * i) + 1) L from in4 (k := 1) (by omega) hL) hv1 dL_law_654 ?_
        refine lv_aload_n hx hb dL_law_655 rfl (lv_at hl 1 rfl) ?_
        refine lv_iload hx hb dL_law_656 (lv_at hl 5 rfl) ?_
        refine lv_iconst (v := 2) hx hb dL_law_658 (by decide) ?_
        refine lv_iadd hx hb dL_law_659 ?_
        refine mSld hx hb hX hbl hbA hS (show vp_in (nI (4 * i) + 2) L from in4 (k := 2) (by omega) hL) hv2 dL_law_660 ?_
        refine wrVi (As := [.int v1, .int v2]) (rest := []) ⟨hx, hb, hml, hown, hts⟩ (c_X7_stroke_ok l D z q (aa 29) th (aa 30) (aa 31) (aa 32) (aa 33) (aa 34) (aa 35) (aa 36) (aa 37) (aa 38) (aa 39) (aa 40) pl ct ti sh ia pr ltM tyM zz po ml me ek ef wt wh sn kpM dy ps zn v1 v2 H.size e0 e1 (fun h9 => e2 ((end_iff hzz hz40 hlt9 hpo hps).mpr h9)) hpo hzz hz40 hps hdu hpl hdp hfin) (cwV 2 hts gL_law_X7_stroke rfl rfl rfl hd_X7_stroke ⟨Nat.le_of_ble_eq_true rfl, Nat.le_of_ble_eq_true rfl⟩) hE hS hA hP hD [29, 30, 31, 32, 33, 34, 35, 36, 37, 38, 39, 40] rfl rfl rfl rfl rfl rfl rfl hl.1 rfl (Nat.le_of_ble_eq_true rfl) dL_law_661 ⟨(by show 60 + 8 * i + 3 + 0 ≤ 601024; omega), (by show 4000 + 40 * i + 18 + 0 ≤ 7293034; omega)⟩ (fun H locs hP hD hS => ?_)
        have hP : va_P D vwCl (lawW z aa pl lo (cSet 26 ct (tAt lt zz po) (cAt 26 ct (tAt lt zz po) + 1)) (cSet 26 ti (tAt lt zz po) (fAged (cAt 26 ti (tAt lt zz po)) v2)) (cSet 26 sh (tAt lt zz po) (fShr (cAt 26 sh (tAt lt zz po)) (if kKind pl lo lt ty zz po v1 (tAt lt zz po) = -1 then 0 else 1))) (kPr pr lt zz po (tAt lt zz po) v2) ia lt (cSet 40 ty po v1) kp (kErr ek 5 (kKind pl lo lt ty zz po v1 (tAt lt zz po)) (kKind pl lo lt ty zz po v1 (tAt lt zz po))) (kErr ef 8 (kKind pl lo lt ty zz po v1 (tAt lt zz po)) (bFin pl (tAt lt zz po))) wt wh zz (po + 1) me (ml + v2) sn (dy + 1) pl (cSet 26 ct (cAt 40 ltM po) (cAt 26 ct (cAt 40 ltM po) + 1)) (cSet 26 ti (cAt 40 ltM po) ((3 * cAt 26 ti (cAt 40 ltM po) + v2) / 4)) (cSet 26 sh (cAt 40 ltM po) (mShr (cAt 26 sh (cAt 40 ltM po)) v1 (cAt 40 ltM po))) (mPr pr ltM po (cAt 40 ltM po) v2) ia ltM (cSet 40 tyM po v1) kpM (mAdd ek 5 v1 (cAt 40 ltM po) (mErr pl ltM tyM zz po v1)) (mAdd ef 8 v1 (cAt 40 ltM po) (mFin (bCol pl (cAt 40 ltM po)))) wt wh zz (po + 1) me (ml + v2) sn (dy + 1) 0 (vp_updL ov (0 : Int32).toNatClampNeg (kKind pl lo lt ty zz po v1 (tAt lt zz po)).toInt64)) H := hP
        have hD : va_D (fun x : Nat => s.heap.size ≤ x) (lawW z aa pl lo (cSet 26 ct (tAt lt zz po) (cAt 26 ct (tAt lt zz po) + 1)) (cSet 26 ti (tAt lt zz po) (fAged (cAt 26 ti (tAt lt zz po)) v2)) (cSet 26 sh (tAt lt zz po) (fShr (cAt 26 sh (tAt lt zz po)) (if kKind pl lo lt ty zz po v1 (tAt lt zz po) = -1 then 0 else 1))) (kPr pr lt zz po (tAt lt zz po) v2) ia lt (cSet 40 ty po v1) kp (kErr ek 5 (kKind pl lo lt ty zz po v1 (tAt lt zz po)) (kKind pl lo lt ty zz po v1 (tAt lt zz po))) (kErr ef 8 (kKind pl lo lt ty zz po v1 (tAt lt zz po)) (bFin pl (tAt lt zz po))) wt wh zz (po + 1) me (ml + v2) sn (dy + 1) pl (cSet 26 ct (cAt 40 ltM po) (cAt 26 ct (cAt 40 ltM po) + 1)) (cSet 26 ti (cAt 40 ltM po) ((3 * cAt 26 ti (cAt 40 ltM po) + v2) / 4)) (cSet 26 sh (cAt 40 ltM po) (mShr (cAt 26 sh (cAt 40 ltM po)) v1 (cAt 40 ltM po))) (mPr pr ltM po (cAt 40 ltM po) v2) ia ltM (cSet 40 tyM po v1) kpM (mAdd ek 5 v1 (cAt 40 ltM po) (mErr pl ltM tyM zz po v1)) (mAdd ef 8 v1 (cAt 40 ltM po) (mFin (bCol pl (cAt 40 ltM po)))) wt wh zz (po + 1) me (ml + v2) sn (dy + 1) 0 (vp_updL ov (0 : Int32).toNatClampNeg (kKind pl lo lt ty zz po v1 (tAt lt zz po)).toInt64)) := hD
        refine lv_istore (lv' := [(6, .int (mKind pl ltM tyM zz po v1)), (5, .int 0), (0, .ref b), (1, .ref (aa 0)), (2, .ref (aa 29)), (3, .ref (aa 41)), (4, .int (nI (4 * i)))]) hx hb dL_law_664 hl (by decide) rfl (fun ls hl => ?_)
        refine lv_aload_n hx hb dL_law_666 rfl (lv_at hl 4 rfl) ?_
        refine rdV (As := []) (rest := []) ⟨hx, hb, hml, hown, hts⟩ (c_X7_thrown l D z q (aa 29) 0 (aa 30) (aa 31) (aa 32) (aa 33) (aa 34) (aa 35) (aa 36) (aa 37) (aa 38) (aa 39) (aa 40) pl (cSet 26 ct (cAt 40 ltM po) (cAt 26 ct (cAt 40 ltM po) + 1)) (cSet 26 ti (cAt 40 ltM po) ((3 * cAt 26 ti (cAt 40 ltM po) + v2) / 4)) (cSet 26 sh (cAt 40 ltM po) (mShr (cAt 26 sh (cAt 40 ltM po)) v1 (cAt 40 ltM po))) ia (mPr pr ltM po (cAt 40 ltM po) v2) ltM (cSet 40 tyM po v1) zz (po + 1) (ml + v2) me (mAdd ek 5 v1 (cAt 40 ltM po) (mErr pl ltM tyM zz po v1)) (mAdd ef 8 v1 (cAt 40 ltM po) (mFin (bCol pl (cAt 40 ltM po)))) wt wh sn kpM (dy + 1)) (cwV 0 hts gL_law_X7_thrown rfl rfl rfl hd_X7_thrown ⟨Nat.le_of_ble_eq_true rfl, Nat.le_of_ble_eq_true rfl⟩) hE hS hA hP [29, 30, 31, 32, 33, 34, 35, 36, 37, 38, 39, 40] rfl rfl rfl rfl rfl hl.1 rfl (Nat.le_of_ble_eq_true rfl) dL_law_667 ⟨(by show 60 + 8 * i + 3 + 0 ≤ 601024; omega), (by show 4000 + 40 * i + 18 + 0 ≤ 7293034; omega)⟩ ?_
        refine lv_iload hx hb dL_law_670 (lv_at hl 1 rfl) ?_
        refine lv_icmp_eq (tgt := 677) hx hb dL_law_672 (by decide) (fun _ => ?_) (fun c_1 => absurd (by decide) c_1)
        refine lv_iload hx hb dL_law_677 (lv_at hl 1 rfl) ?_
        refine lv_if_ne (tgt := 694) hx hb dL_law_679 (by decide) (fun c_2 => absurd (by decide) c_2) (fun _ => ?_)
        refine lv_aload_n hx hb dL_law_682 rfl (lv_at hl 5 rfl) ?_
        refine lv_iconst (v := 0) hx hb dL_law_683 (by decide) ?_
        refine va_lald hx hb hK hP 41 2 rfl rfl in0 dL_law_684 ?_
        refine lv_iload hx hb dL_law_685 (lv_at hl 0 rfl) ?_
        refine lv_i2l (v := (mKind pl ltM tyM zz po v1).toInt64) hx hb dL_law_687 rfl ?_
        refine W.lcmp hx hb dL_law_688 ?_
        refine lv_if_eq (tgt := 694) hx hb dL_law_689 (by decide) (fun _ => ?_) (fun c_3 => absurd (lgu (congrArg Int32.toInt64 (hkk))) c_3)
        refine lv_goto (tgt := 1466) hx hb dL_law_694 (by decide) ?_
        rw [q1, q2, q3, q4, q5, q6] at hP hD
        exact W.widen (by omega) (by omega) (next pl lo (cSet 26 ct (tAt lt zz po) (cAt 26 ct (tAt lt zz po) + 1)) (cSet 26 ti (tAt lt zz po) (fAged (cAt 26 ti (tAt lt zz po)) v2)) (cSet 26 sh (tAt lt zz po) (fShr (cAt 26 sh (tAt lt zz po)) (if kKind pl lo lt ty zz po v1 (tAt lt zz po) = -1 then 0 else 1))) (kPr pr lt zz po (tAt lt zz po) v2) ia lt (cSet 40 ty po v1) kp (kErr ek 5 (kKind pl lo lt ty zz po v1 (tAt lt zz po)) (kKind pl lo lt ty zz po v1 (tAt lt zz po))) (kErr ef 8 (kKind pl lo lt ty zz po v1 (tAt lt zz po)) (bFin pl (tAt lt zz po))) ltM (cSet 40 tyM po v1) kpM wt wh zz (po + 1) me (ml + v2) sn (dy + 1) 0 (vp_updL ov (0 : Int32).toNatClampNeg (kKind pl lo lt ty zz po v1 (tAt lt zz po)).toInt64) H locs (hI2) hP hD hS ls (lv_sub hl [2, 3, 4, 5, 6] rfl))
set_option maxHeartbeats 4000000 in
set_option maxRecDepth 100000 in
theorem law_10 {p : Program} {l : Launch} {e : Env} {s : State} {m : MethodId} {below : List Frame} {meth : Method} {c : Code} {D : va_G} {z : Nat → ClassId} {q aa : Nat → Nat} {b L : Nat} {xs : Nat → Int32} {i : Nat} (G : LG p l e s m below meth c D z q b L xs) (h4 : 4 * i + 4 ≤ L) (next : LAW p l e s m below meth c D z aa b 1466 (i + 1) i) : LAW p l e s m below meth c D z aa b 697 i i := by
  obtain ⟨hx, hb, hml, hown, hts, hX, hbl, hE, hlt, hL⟩ := G
  have hi5 : i < 512 := by omega
  have hbA : ¬ (fun x : Nat => s.heap.size ≤ x) b := Nat.not_le_of_lt hbl
  have hA : ∀ x : Nat, s.heap.size ≤ x → (fun x : Nat => s.heap.size ≤ x) x := fun _ h => h
  have hK := hE.1
  intro pl lo ct ti sh pr ia lt ty kp ek ef ltM tyM kpM wt wh zz po me ml sn dy th ov H locs hI hP hD hS ls hl
  have ⟨hB, hPR, hIO, ⟨zn, hzz, hz40, hlt9, ps, hpo, hps, hty⟩, ⟨mn, hml9, hmn⟩, ⟨sk, hsn, hsk, hkp⟩⟩ := hI
  obtain ⟨v1, hv1⟩ : ∃ v, v = xs (nI (4 * i) + 1).toNatClampNeg := ⟨_, rfl⟩
  by_cases e0 : bW v1 1 5000 = 0
  · refine lv_aload_n hx hb dL_law_697 rfl (lv_at hl 1 rfl) ?_
    refine lv_aload_n hx hb dL_law_698 rfl (lv_at hl 0 rfl) ?_
    refine lv_iload hx hb dL_law_699 (lv_at hl 4 rfl) ?_
    refine lv_iconst (v := 1) hx hb dL_law_701 (by decide) ?_
    refine lv_iadd hx hb dL_law_702 ?_
    refine mSld hx hb hX hbl hbA hS (show vp_in (nI (4 * i) + 1) L from in4 (k := 1) (by omega) hL) hv1 dL_law_703 ?_
    refine lv_aload_n hx hb dL_law_704 rfl (lv_at hl 3 rfl) ?_
    refine hwS (As := [.ref (aa 0), .int v1, .ref (aa 41)]) (rest := []) ⟨hx, hb, hml, hown, hts⟩ (c_L_back_0 l D z q (aa 0) (aa 1) (aa 6) (aa 15) (aa 17) (aa 22) (aa 25) (aa 27) dy (aa 18) (aa 19) (aa 20) (aa 21) lt ty zz po me ml v1 (aa 41) ov H.size e0 hlt) (vx_cwSW 3 hts gL_law_L_back rfl rfl rfl hd_L_back.2 ⟨Nat.le_of_ble_eq_true rfl, Nat.le_of_ble_eq_true rfl⟩) hE hS hA hP hD [0, 17, 18, 19, 20, 21, 41] rfl rfl rfl rfl hl.1 rfl (Nat.le_of_ble_eq_true rfl) dL_law_705 ⟨(by show 60 + 8 * i + 3 ≤ 601024; omega), (by show 4000 + 40 * i + 18 ≤ 7293034; omega)⟩ (fun H locs hP hD hS => ?_)
    have hP : va_P D vwCl (lawW z aa pl lo ct ti sh pr ia lt ty kp ek ef wt wh zz po me ml sn dy pl ct ti sh pr ia ltM tyM kpM ek ef wt wh zz po me ml sn dy th ov) H := hP
    have hD : va_D (fun x : Nat => s.heap.size ≤ x) (lawW z aa pl lo ct ti sh pr ia lt ty kp ek ef wt wh zz po me ml sn dy pl ct ti sh pr ia ltM tyM kpM ek ef wt wh zz po me ml sn dy th ov) := hD
    refine lv_istore (lv' := [(5, .int 1), (0, .ref b), (1, .ref (aa 0)), (2, .ref (aa 29)), (3, .ref (aa 41)), (4, .int (nI (4 * i)))]) hx hb dL_law_708 hl (by decide) rfl (fun ls hl => ?_)
    refine lv_aload_n hx hb dL_law_710 rfl (lv_at hl 3 rfl) ?_
    refine lv_aload_n hx hb dL_law_711 rfl (lv_at hl 1 rfl) ?_
    refine lv_iload hx hb dL_law_712 (lv_at hl 5 rfl) ?_
    refine lv_iconst (v := 1) hx hb dL_law_714 (by decide) ?_
    refine lv_iadd hx hb dL_law_715 ?_
    refine mSld hx hb hX hbl hbA hS (show vp_in (nI (4 * i) + 1) L from in4 (k := 1) (by omega) hL) hv1 dL_law_716 ?_
    refine wrVi (As := [.int v1]) (rest := []) ⟨hx, hb, hml, hown, hts⟩ (c_X7_back_b0 l D z q (aa 29) th (aa 30) (aa 31) (aa 32) (aa 33) (aa 34) (aa 35) (aa 36) (aa 37) (aa 38) (aa 39) (aa 40) pl ct ti sh ia pr ltM tyM zz po ml me ek ef wt wh sn kpM dy v1 H.size e0) (cwV 1 hts gL_law_X7_back rfl rfl rfl hd_X7_back ⟨Nat.le_of_ble_eq_true rfl, Nat.le_of_ble_eq_true rfl⟩) hE hS hA hP hD [29, 30, 31, 32, 33, 34, 35, 36, 37, 38, 39, 40] rfl rfl rfl rfl rfl rfl rfl hl.1 rfl (Nat.le_of_ble_eq_true rfl) dL_law_717 ⟨(by show 60 + 8 * i + 3 + 0 ≤ 601024; omega), (by show 4000 + 40 * i + 18 + 0 ≤ 7293034; omega)⟩ (fun H locs hP hD hS => ?_)
    have hP : va_P D vwCl (lawW z aa pl lo ct ti sh pr ia lt ty kp ek ef wt wh zz po me ml sn dy pl ct ti sh pr ia ltM tyM kpM ek ef wt wh zz po me ml sn dy 1 ov) H := hP
    have hD : va_D (fun x : Nat => s.heap.size ≤ x) (lawW z aa pl lo ct ti sh pr ia lt ty kp ek ef wt wh zz po me ml sn dy pl ct ti sh pr ia ltM tyM kpM ek ef wt wh zz po me ml sn dy 1 ov) := hD
    refine lv_istore (lv' := [(6, .int 0), (5, .int 1), (0, .ref b), (1, .ref (aa 0)), (2, .ref (aa 29)), (3, .ref (aa 41)), (4, .int (nI (4 * i)))]) hx hb dL_law_720 hl (by decide) rfl (fun ls hl => ?_)
    refine lv_aload_n hx hb dL_law_722 rfl (lv_at hl 4 rfl) ?_
    refine rdV (As := []) (rest := []) ⟨hx, hb, hml, hown, hts⟩ (c_X7_thrown l D z q (aa 29) 1 (aa 30) (aa 31) (aa 32) (aa 33) (aa 34) (aa 35) (aa 36) (aa 37) (aa 38) (aa 39) (aa 40) pl ct ti sh ia pr ltM tyM zz po ml me ek ef wt wh sn kpM dy) (cwV 0 hts gL_law_X7_thrown rfl rfl rfl hd_X7_thrown ⟨Nat.le_of_ble_eq_true rfl, Nat.le_of_ble_eq_true rfl⟩) hE hS hA hP [29, 30, 31, 32, 33, 34, 35, 36, 37, 38, 39, 40] rfl rfl rfl rfl rfl hl.1 rfl (Nat.le_of_ble_eq_true rfl) dL_law_723 ⟨(by show 60 + 8 * i + 3 + 0 ≤ 601024; omega), (by show 4000 + 40 * i + 18 + 0 ≤ 7293034; omega)⟩ ?_
    refine lv_iload hx hb dL_law_726 (lv_at hl 1 rfl) ?_
    refine lv_icmp_eq (tgt := 733) hx hb dL_law_728 (by decide) (fun _ => ?_) (fun c_1 => absurd (by decide) c_1)
    refine lv_iload hx hb dL_law_733 (lv_at hl 1 rfl) ?_
    refine lv_if_ne (tgt := 750) hx hb dL_law_735 (by decide) (fun _ => ?_) (fun c_2 => absurd c_2 (by decide))
    refine lv_goto (tgt := 1466) hx hb dL_law_750 (by decide) ?_
    exact W.widen (by omega) (by omega) (next pl lo ct ti sh pr ia lt ty kp ek ef ltM tyM kpM wt wh zz po me ml sn dy 1 ov H locs (INV_mono hI) hP hD hS ls (lv_sub hl [2, 3, 4, 5, 6] rfl))
  · by_cases e1 : po = 0
    · refine lv_aload_n hx hb dL_law_697 rfl (lv_at hl 1 rfl) ?_
      refine lv_aload_n hx hb dL_law_698 rfl (lv_at hl 0 rfl) ?_
      refine lv_iload hx hb dL_law_699 (lv_at hl 4 rfl) ?_
      refine lv_iconst (v := 1) hx hb dL_law_701 (by decide) ?_
      refine lv_iadd hx hb dL_law_702 ?_
      refine mSld hx hb hX hbl hbA hS (show vp_in (nI (4 * i) + 1) L from in4 (k := 1) (by omega) hL) hv1 dL_law_703 ?_
      refine lv_aload_n hx hb dL_law_704 rfl (lv_at hl 3 rfl) ?_
      refine hwS (As := [.ref (aa 0), .int v1, .ref (aa 41)]) (rest := []) ⟨hx, hb, hml, hown, hts⟩ (c_L_back_1 l D z q (aa 0) (aa 1) (aa 6) (aa 15) (aa 17) (aa 22) (aa 25) (aa 27) dy (aa 18) (aa 19) (aa 20) (aa 21) lt ty zz po me ml v1 (aa 41) ov H.size e0 e1 hlt) (vx_cwSW 3 hts gL_law_L_back rfl rfl rfl hd_L_back.2 ⟨Nat.le_of_ble_eq_true rfl, Nat.le_of_ble_eq_true rfl⟩) hE hS hA hP hD [0, 17, 18, 19, 20, 21, 41] rfl rfl rfl rfl hl.1 rfl (Nat.le_of_ble_eq_true rfl) dL_law_705 ⟨(by show 60 + 8 * i + 3 ≤ 601024; omega), (by show 4000 + 40 * i + 18 ≤ 7293034; omega)⟩ (fun H locs hP hD hS => ?_)
      have hP : va_P D vwCl (lawW z aa pl lo ct ti sh pr ia lt ty kp ek ef wt wh zz po me ml sn dy pl ct ti sh pr ia ltM tyM kpM ek ef wt wh zz po me ml sn dy th ov) H := hP
      have hD : va_D (fun x : Nat => s.heap.size ≤ x) (lawW z aa pl lo ct ti sh pr ia lt ty kp ek ef wt wh zz po me ml sn dy pl ct ti sh pr ia ltM tyM kpM ek ef wt wh zz po me ml sn dy th ov) := hD
      refine lv_istore (lv' := [(5, .int 2), (0, .ref b), (1, .ref (aa 0)), (2, .ref (aa 29)), (3, .ref (aa 41)), (4, .int (nI (4 * i)))]) hx hb dL_law_708 hl (by decide) rfl (fun ls hl => ?_)
      refine lv_aload_n hx hb dL_law_710 rfl (lv_at hl 3 rfl) ?_
      refine lv_aload_n hx hb dL_law_711 rfl (lv_at hl 1 rfl) ?_
      refine lv_iload hx hb dL_law_712 (lv_at hl 5 rfl) ?_
      refine lv_iconst (v := 1) hx hb dL_law_714 (by decide) ?_
      refine lv_iadd hx hb dL_law_715 ?_
      refine mSld hx hb hX hbl hbA hS (show vp_in (nI (4 * i) + 1) L from in4 (k := 1) (by omega) hL) hv1 dL_law_716 ?_
      refine wrVi (As := [.int v1]) (rest := []) ⟨hx, hb, hml, hown, hts⟩ (c_X7_back_b1 l D z q (aa 29) th (aa 30) (aa 31) (aa 32) (aa 33) (aa 34) (aa 35) (aa 36) (aa 37) (aa 38) (aa 39) (aa 40) pl ct ti sh ia pr ltM tyM zz po ml me ek ef wt wh sn kpM dy v1 H.size e0 e1) (cwV 1 hts gL_law_X7_back rfl rfl rfl hd_X7_back ⟨Nat.le_of_ble_eq_true rfl, Nat.le_of_ble_eq_true rfl⟩) hE hS hA hP hD [29, 30, 31, 32, 33, 34, 35, 36, 37, 38, 39, 40] rfl rfl rfl rfl rfl rfl rfl hl.1 rfl (Nat.le_of_ble_eq_true rfl) dL_law_717 ⟨(by show 60 + 8 * i + 3 + 0 ≤ 601024; omega), (by show 4000 + 40 * i + 18 + 0 ≤ 7293034; omega)⟩ (fun H locs hP hD hS => ?_)
      have hP : va_P D vwCl (lawW z aa pl lo ct ti sh pr ia lt ty kp ek ef wt wh zz po me ml sn dy pl ct ti sh pr ia ltM tyM kpM ek ef wt wh zz po me ml sn dy 2 ov) H := hP
      have hD : va_D (fun x : Nat => s.heap.size ≤ x) (lawW z aa pl lo ct ti sh pr ia lt ty kp ek ef wt wh zz po me ml sn dy pl ct ti sh pr ia ltM tyM kpM ek ef wt wh zz po me ml sn dy 2 ov) := hD
      refine lv_istore (lv' := [(6, .int 0), (5, .int 2), (0, .ref b), (1, .ref (aa 0)), (2, .ref (aa 29)), (3, .ref (aa 41)), (4, .int (nI (4 * i)))]) hx hb dL_law_720 hl (by decide) rfl (fun ls hl => ?_)
      refine lv_aload_n hx hb dL_law_722 rfl (lv_at hl 4 rfl) ?_
      refine rdV (As := []) (rest := []) ⟨hx, hb, hml, hown, hts⟩ (c_X7_thrown l D z q (aa 29) 2 (aa 30) (aa 31) (aa 32) (aa 33) (aa 34) (aa 35) (aa 36) (aa 37) (aa 38) (aa 39) (aa 40) pl ct ti sh ia pr ltM tyM zz po ml me ek ef wt wh sn kpM dy) (cwV 0 hts gL_law_X7_thrown rfl rfl rfl hd_X7_thrown ⟨Nat.le_of_ble_eq_true rfl, Nat.le_of_ble_eq_true rfl⟩) hE hS hA hP [29, 30, 31, 32, 33, 34, 35, 36, 37, 38, 39, 40] rfl rfl rfl rfl rfl hl.1 rfl (Nat.le_of_ble_eq_true rfl) dL_law_723 ⟨(by show 60 + 8 * i + 3 + 0 ≤ 601024; omega), (by show 4000 + 40 * i + 18 + 0 ≤ 7293034; omega)⟩ ?_
      refine lv_iload hx hb dL_law_726 (lv_at hl 1 rfl) ?_
      refine lv_icmp_eq (tgt := 733) hx hb dL_law_728 (by decide) (fun _ => ?_) (fun c_1 => absurd (by decide) c_1)
      refine lv_iload hx hb dL_law_733 (lv_at hl 1 rfl) ?_
      refine lv_if_ne (tgt := 750) hx hb dL_law_735 (by decide) (fun _ => ?_) (fun c_2 => absurd c_2 (by decide))
      refine lv_goto (tgt := 1466) hx hb dL_law_750 (by decide) ?_
      exact W.widen (by omega) (by omega) (next pl lo ct ti sh pr ia lt ty kp ek ef ltM tyM kpM wt wh zz po me ml sn dy 2 ov H locs (INV_mono hI) hP hD hS ls (lv_sub hl [2, 3, 4, 5, 6] rfl))
    · refine lv_aload_n hx hb dL_law_697 rfl (lv_at hl 1 rfl) ?_
      refine lv_aload_n hx hb dL_law_698 rfl (lv_at hl 0 rfl) ?_
      refine lv_iload hx hb dL_law_699 (lv_at hl 4 rfl) ?_
      refine lv_iconst (v := 1) hx hb dL_law_701 (by decide) ?_
      refine lv_iadd hx hb dL_law_702 ?_
      refine mSld hx hb hX hbl hbA hS (show vp_in (nI (4 * i) + 1) L from in4 (k := 1) (by omega) hL) hv1 dL_law_703 ?_
      refine lv_aload_n hx hb dL_law_704 rfl (lv_at hl 3 rfl) ?_
      refine hwS (As := [.ref (aa 0), .int v1, .ref (aa 41)]) (rest := []) ⟨hx, hb, hml, hown, hts⟩ (c_L_back_2 l D z q (aa 0) (aa 1) (aa 6) (aa 15) (aa 17) (aa 22) (aa 25) (aa 27) dy (aa 18) (aa 19) (aa 20) (aa 21) lt ty zz po me ml v1 (aa 41) ov H.size e0 e1 hlt) (vx_cwSW 3 hts gL_law_L_back rfl rfl rfl hd_L_back.2 ⟨Nat.le_of_ble_eq_true rfl, Nat.le_of_ble_eq_true rfl⟩) hE hS hA hP hD [0, 17, 18, 19, 20, 21, 41] rfl rfl rfl rfl hl.1 rfl (Nat.le_of_ble_eq_true rfl) dL_law_705 ⟨(by show 60 + 8 * i + 3 ≤ 601024; omega), (by show 4000 + 40 * i + 18 ≤ 7293034; omega)⟩ (fun H locs hP hD hS => ?_)
      have hP : va_P D vwCl (lawW z aa pl lo ct ti sh pr ia lt ty kp ek ef wt wh zz (po - 1) (me + 1) (ml + v1) sn dy pl ct ti sh pr ia ltM tyM kpM ek ef wt wh zz po me ml sn dy th (vp_updL ov (0 : Int32).toNatClampNeg (po - 1).toInt64)) H := hP
      have hD : va_D (fun x : Nat => s.heap.size ≤ x) (lawW z aa pl lo ct ti sh pr ia lt ty kp ek ef wt wh zz (po - 1) (me + 1) (ml + v1) sn dy pl ct ti sh pr ia ltM tyM kpM ek ef wt wh zz po me ml sn dy th (vp_updL ov (0 : Int32).toNatClampNeg (po - 1).toInt64)) := hD
      refine lv_istore (lv' := [(5, .int 0), (0, .ref b), (1, .ref (aa 0)), (2, .ref (aa 29)), (3, .ref (aa 41)), (4, .int (nI (4 * i)))]) hx hb dL_law_708 hl (by decide) rfl (fun ls hl => ?_)
      refine lv_aload_n hx hb dL_law_710 rfl (lv_at hl 3 rfl) ?_
      refine lv_aload_n hx hb dL_law_711 rfl (lv_at hl 1 rfl) ?_
      refine lv_iload hx hb dL_law_712 (lv_at hl 5 rfl) ?_
      refine lv_iconst (v := 1) hx hb dL_law_714 (by decide) ?_
      refine lv_iadd hx hb dL_law_715 ?_
      refine mSld hx hb hX hbl hbA hS (show vp_in (nI (4 * i) + 1) L from in4 (k := 1) (by omega) hL) hv1 dL_law_716 ?_
      refine wrVi (As := [.int v1]) (rest := []) ⟨hx, hb, hml, hown, hts⟩ (c_X7_back_ok l D z q (aa 29) th (aa 30) (aa 31) (aa 32) (aa 33) (aa 34) (aa 35) (aa 36) (aa 37) (aa 38) (aa 39) (aa 40) pl ct ti sh ia pr ltM tyM zz po ml me ek ef wt wh sn kpM dy v1 H.size e0 e1) (cwV 1 hts gL_law_X7_back rfl rfl rfl hd_X7_back ⟨Nat.le_of_ble_eq_true rfl, Nat.le_of_ble_eq_true rfl⟩) hE hS hA hP hD [29, 30, 31, 32, 33, 34, 35, 36, 37, 38, 39, 40] rfl rfl rfl rfl rfl rfl rfl hl.1 rfl (Nat.le_of_ble_eq_true rfl) dL_law_717 ⟨(by show 60 + 8 * i + 3 + 0 ≤ 601024; omega), (by show 4000 + 40 * i + 18 + 0 ≤ 7293034; omega)⟩ (fun H locs hP hD hS => ?_)
      have hP : va_P D vwCl (lawW z aa pl lo ct ti sh pr ia lt ty kp ek ef wt wh zz (po - 1) (me + 1) (ml + v1) sn dy pl ct ti sh pr ia ltM tyM kpM ek ef wt wh zz (po - 1) (me + 1) (ml + v1) sn dy 0 (vp_updL ov (0 : Int32).toNatClampNeg (po - 1).toInt64)) H := hP
      have hD : va_D (fun x : Nat => s.heap.size ≤ x) (lawW z aa pl lo ct ti sh pr ia lt ty kp ek ef wt wh zz (po - 1) (me + 1) (ml + v1) sn dy pl ct ti sh pr ia ltM tyM kpM ek ef wt wh zz (po - 1) (me + 1) (ml + v1) sn dy 0 (vp_updL ov (0 : Int32).toNatClampNeg (po - 1).toInt64)) := hD
      refine lv_istore (lv' := [(6, .int (po - 1)), (5, .int 0), (0, .ref b), (1, .ref (aa 0)), (2, .ref (aa 29)), (3, .ref (aa 41)), (4, .int (nI (4 * i)))]) hx hb dL_law_720 hl (by decide) rfl (fun ls hl => ?_)
      refine lv_aload_n hx hb dL_law_722 rfl (lv_at hl 4 rfl) ?_
      refine rdV (As := []) (rest := []) ⟨hx, hb, hml, hown, hts⟩ (c_X7_thrown l D z q (aa 29) 0 (aa 30) (aa 31) (aa 32) (aa 33) (aa 34) (aa 35) (aa 36) (aa 37) (aa 38) (aa 39) (aa 40) pl ct ti sh ia pr ltM tyM zz (po - 1) (ml + v1) (me + 1) ek ef wt wh sn kpM dy) (cwV 0 hts gL_law_X7_thrown rfl rfl rfl hd_X7_thrown ⟨Nat.le_of_ble_eq_true rfl, Nat.le_of_ble_eq_true rfl⟩) hE hS hA hP [29, 30, 31, 32, 33, 34, 35, 36, 37, 38, 39, 40] rfl rfl rfl rfl rfl hl.1 rfl (Nat.le_of_ble_eq_true rfl) dL_law_723 ⟨(by show 60 + 8 * i + 3 + 0 ≤ 601024; omega), (by show 4000 + 40 * i + 18 + 0 ≤ 7293034; omega)⟩ ?_
      refine lv_iload hx hb dL_law_726 (lv_at hl 1 rfl) ?_
      refine lv_icmp_eq (tgt := 733) hx hb dL_law_728 (by decide) (fun _ => ?_) (fun c_1 => absurd (by decide) c_1)
      refine lv_iload hx hb dL_law_733 (lv_at hl 1 rfl) ?_
      refine lv_if_ne (tgt := 750) hx hb dL_law_735 (by decide) (fun c_2 => absurd (by decide) c_2) (fun _ => ?_)
      refine lv_aload_n hx hb dL_law_738 rfl (lv_at hl 5 rfl) ?_
      refine lv_iconst (v := 0) hx hb dL_law_739 (by decide) ?_
      refine va_lald hx hb hK hP 41 2 rfl rfl in0 dL_law_740 ?_
      refine lv_iload hx hb dL_law_741 (lv_at hl 0 rfl) ?_
      refine lv_i2l (v := (po - 1).toInt64) hx hb dL_law_743 rfl ?_
      refine W.lcmp hx hb dL_law_744 ?_
      refine lv_if_eq (tgt := 750) hx hb dL_law_745 (by decide) (fun _ => ?_) (fun c_3 => absurd (lgu rfl) c_3)
      refine lv_goto (tgt := 1466) hx hb dL_law_750 (by decide) ?_
      exact W.widen (by omega) (by omega) (next pl lo ct ti sh pr ia lt ty kp ek ef ltM tyM kpM wt wh zz (po - 1) (me + 1) (ml + v1) sn dy 0 (vp_updL ov (0 : Int32).toNatClampNeg (po - 1).toInt64) H locs (INV_back hI e0 e1) hP hD hS ls (lv_sub hl [2, 3, 4, 5, 6] rfl))
set_option maxHeartbeats 4000000 in
set_option maxRecDepth 100000 in
theorem law_11 {p : Program} {l : Launch} {e : Env} {s : State} {m : MethodId} {below : List Frame} {meth : Method} {c : Code} {D : va_G} {z : Nat → ClassId} {q aa : Nat → Nat} {b L : Nat} {xs : Nat → Int32} {i : Nat} (G : LG p l e s m below meth c D z q b L xs) (h4 : 4 * i + 4 ≤ L) (next : LAW p l e s m below meth c D z aa b 1466 (i + 1) i) : LAW p l e s m below meth c D z aa b 753 i i := by
  obtain ⟨hx, hb, hml, hown, hts, hX, hbl, hE, hlt, hL⟩ := G
  have hi5 : i < 512 := by omega
  have hbA : ¬ (fun x : Nat => s.heap.size ≤ x) b := Nat.not_le_of_lt hbl
  have hA : ∀ x : Nat, s.heap.size ≤ x → (fun x : Nat => s.heap.size ≤ x) x := fun _ h => h
  have hK := hE.1
  intro pl lo ct ti sh pr ia lt ty kp ek ef ltM tyM kpM wt wh zz po me ml sn dy th ov H locs hI hP hD hS ls hl
  have ⟨hB, hPR, hIO, ⟨zn, hzz, hz40, hlt9, ps, hpo, hps, hty⟩, ⟨mn, hml9, hmn⟩, ⟨sk, hsn, hsk, hkp⟩⟩ := hI
  refine lv_aload_n hx hb dL_law_753 rfl (lv_at hl 1 rfl) ?_
  refine rdV (As := []) (rest := []) ⟨hx, hb, hml, hown, hts⟩ (c_X6_speed l D z q (aa 0) (aa 1) (aa 6) (aa 15) (aa 17) (aa 22) (aa 25) (aa 27) dy (aa 18) (aa 19) (aa 20) (aa 21) lt ty zz po me ml ps hpo (by omega)) (cwV 0 hts gL_law_X6_speed rfl rfl rfl hd_X6_speed ⟨Nat.le_of_ble_eq_true rfl, Nat.le_of_ble_eq_true rfl⟩) hE hS hA hP [0, 17, 18, 19, 20, 21] rfl rfl rfl rfl rfl hl.1 rfl (Nat.le_of_ble_eq_true rfl) dL_law_754 ⟨(by show 60 + 8 * i + 0 ≤ 601024; omega), (by show 4000 + 40 * i + 0 ≤ 7293034; omega)⟩ ?_
  refine lv_aload_n hx hb dL_law_757 rfl (lv_at hl 2 rfl) ?_
  refine wrVi (As := []) (rest := [.int (tSpeed lt ty ps ml)]) ⟨hx, hb, hml, hown, hts⟩ (c_X7_speed l D z q (aa 29) th (aa 30) (aa 31) (aa 32) (aa 33) (aa 34) (aa 35) (aa 36) (aa 37) (aa 38) (aa 39) (aa 40) pl ct ti sh ia pr ltM tyM zz po ml me ek ef wt wh sn kpM dy ps H.size hpo (by omega)) (cwV 0 hts gL_law_X7_speed rfl rfl rfl hd_X7_speed ⟨Nat.le_of_ble_eq_true rfl, Nat.le_of_ble_eq_true rfl⟩) hE hS hA hP hD [29, 30, 31, 32, 33, 34, 35, 36, 37, 38, 39, 40] rfl rfl rfl rfl rfl rfl rfl hl.1 rfl (Nat.le_of_ble_eq_true rfl) dL_law_758 ⟨(by show 60 + 8 * i + 0 ≤ 601024; omega), (by show 4000 + 40 * i + 0 ≤ 7293034; omega)⟩ (fun H locs hP hD hS => ?_)
  have hP : va_P D vwCl (lawW z aa pl lo ct ti sh pr ia lt ty kp ek ef wt wh zz po me ml sn dy pl ct ti sh pr ia ltM tyM kpM ek ef wt wh zz po me ml sn dy 0 ov) H := hP
  have hD : va_D (fun x : Nat => s.heap.size ≤ x) (lawW z aa pl lo ct ti sh pr ia lt ty kp ek ef wt wh zz po me ml sn dy pl ct ti sh pr ia ltM tyM kpM ek ef wt wh zz po me ml sn dy 0 ov) := hD
  refine lv_icmp_eq (tgt := 1466) hx hb dL_law_761 (by decide) (fun _ => ?_) (fun c_1 => absurd ((speed_rel hI (by omega) hpo (by omega)).symm) c_1)
  exact W.widen (by omega) (by omega) (next pl lo ct ti sh pr ia lt ty kp ek ef ltM tyM kpM wt wh zz po me ml sn dy 0 ov H locs (INV_mono hI) hP hD hS ls (lv_sub hl [0, 1, 2, 3, 4] rfl))
