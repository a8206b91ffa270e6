/-! ===== cases 21 to 28 ===== -/
set_option maxHeartbeats 4000000 in
set_option maxRecDepth 100000 in
theorem law_21 {p : Program} {l : Launch} {e : Env} {s : State} {m : MethodId} {below : List Frame} {meth : Method} {c : Code} {D : va_G} {z : Nat → ClassId} {q aa : Nat → Nat} {b L : Nat} {xs : Nat → Int32} {i : Nat} (G : LG p l e s m below meth c D z q b L xs) (h4 : 4 * i + 4 ≤ L) (next : LAW p l e s m below meth c D z aa b 1466 (i + 1) i) : LAW p l e s m below meth c D z aa b 1219 i i := by
  obtain ⟨hx, hb, hml, hown, hts, hX, hbl, hE, hlt, hL⟩ := G
  have hi5 : i < 512 := by omega
  have hbA : ¬ (fun x : Nat => s.heap.size ≤ x) b := Nat.not_le_of_lt hbl
  have hA : ∀ x : Nat, s.heap.size ≤ x → (fun x : Nat => s.heap.size ≤ x) x := fun _ h => h
  have hK := hE.1
  intro pl lo ct ti sh pr ia lt ty kp ek ef ltM tyM kpM wt wh zz po me ml sn dy th ov H locs hI hP hD hS ls hl
  have ⟨hB, hPR, hIO, ⟨zn, hzz, hz40, hlt9, ps, hpo, hps, hty⟩, ⟨mn, hml9, hmn⟩, ⟨sk, hsn, hsk, hkp⟩⟩ := hI
  obtain ⟨v1, hv1⟩ : ∃ v, v = xs (nI (4 * i) + 1).toNatClampNeg := ⟨_, rfl⟩
  by_cases e0 : bW v1 0 25 = 0
  · refine lv_aload_n hx hb dL_law_1219 rfl (lv_at hl 1 rfl) ?_
    refine lv_aload_n hx hb dL_law_1220 rfl (lv_at hl 0 rfl) ?_
    refine lv_iload hx hb dL_law_1221 (lv_at hl 4 rfl) ?_
    refine lv_iconst (v := 1) hx hb dL_law_1223 (by decide) ?_
    refine lv_iadd hx hb dL_law_1224 ?_
    refine mSld hx hb hX hbl hbA hS (show vp_in (nI (4 * i) + 1) L from in4 (k := 1) (by omega) hL) hv1 dL_law_1225 ?_
    refine lv_aload_n hx hb dL_law_1226 rfl (lv_at hl 3 rfl) ?_
    refine hwS (As := [.ref (aa 0), .int v1, .ref (aa 41)]) (rest := []) ⟨hx, hb, hml, hown, hts⟩ (c_L_isIn_0 l D z q (aa 0) (aa 1) (aa 6) (aa 15) (aa 17) (aa 22) (aa 25) (aa 27) dy (aa 16) ia v1 (aa 41) ov H.size e0 hlt) (vx_cwSW 3 hts gL_law_L_isIn rfl rfl rfl hd_L_isIn.2 ⟨Nat.le_of_ble_eq_true rfl, Nat.le_of_ble_eq_true rfl⟩) hE hS hA hP hD [0, 15, 16, 41] rfl rfl rfl rfl hl.1 rfl (Nat.le_of_ble_eq_true rfl) dL_law_1227 ⟨(by show 60 + 8 * i + 3 ≤ 601024; omega), (by show 4000 + 40 * i + 18 ≤ 7293034; omega)⟩ (fun H locs hP hD hS => ?_)
    have hP : va_P D vwCl (lawW z aa pl lo ct ti sh pr ia lt ty kp ek ef wt wh zz po me ml sn dy pl ct ti sh pr ia ltM tyM kpM ek ef wt wh zz po me ml sn dy th ov) H := hP
    have hD : va_D (fun x : Nat => s.heap.size ≤ x) (lawW z aa pl lo ct ti sh pr ia lt ty kp ek ef wt wh zz po me ml sn dy pl ct ti sh pr ia ltM tyM kpM ek ef wt wh zz po me ml sn dy th ov) := hD
    refine lv_istore (lv' := [(5, .int 1), (0, .ref b), (1, .ref (aa 0)), (2, .ref (aa 29)), (3, .ref (aa 41)), (4, .int (nI (4 * i)))]) hx hb dL_law_1230 hl (by decide) rfl (fun ls hl => ?_)
    refine lv_aload_n hx hb dL_law_1232 rfl (lv_at hl 3 rfl) ?_
    refine lv_aload_n hx hb dL_law_1233 rfl (lv_at hl 1 rfl) ?_
    refine lv_iload hx hb dL_law_1234 (lv_at hl 5 rfl) ?_
    refine lv_iconst (v := 1) hx hb dL_law_1236 (by decide) ?_
    refine lv_iadd hx hb dL_law_1237 ?_
    refine mSld hx hb hX hbl hbA hS (show vp_in (nI (4 * i) + 1) L from in4 (k := 1) (by omega) hL) hv1 dL_law_1238 ?_
    refine wrVi (As := [.int v1]) (rest := []) ⟨hx, hb, hml, hown, hts⟩ (c_X7_isIn_b0 l D z q (aa 29) th (aa 30) (aa 31) (aa 32) (aa 33) (aa 34) (aa 35) (aa 36) (aa 37) (aa 38) (aa 39) (aa 40) pl ct ti sh ia pr ltM tyM zz po ml me ek ef wt wh sn kpM dy v1 H.size e0) (cwV 1 hts gL_law_X7_isIn rfl rfl rfl hd_X7_isIn ⟨Nat.le_of_ble_eq_true rfl, Nat.le_of_ble_eq_true rfl⟩) hE hS hA hP hD [29, 30, 31, 32, 33, 34, 35, 36, 37, 38, 39, 40] rfl rfl rfl rfl rfl rfl rfl hl.1 rfl (Nat.le_of_ble_eq_true rfl) dL_law_1239 ⟨(by show 60 + 8 * i + 3 + 0 ≤ 601024; omega), (by show 4000 + 40 * i + 18 + 0 ≤ 7293034; omega)⟩ (fun H locs hP hD hS => ?_)
    have hP : va_P D vwCl (lawW z aa pl lo ct ti sh pr ia lt ty kp ek ef wt wh zz po me ml sn dy pl ct ti sh pr ia ltM tyM kpM ek ef wt wh zz po me ml sn dy 1 ov) H := hP
    have hD : va_D (fun x : Nat => s.heap.size ≤ x) (lawW z aa pl lo ct ti sh pr ia lt ty kp ek ef wt wh zz po me ml sn dy pl ct ti sh pr ia ltM tyM kpM ek ef wt wh zz po me ml sn dy 1 ov) := hD
    refine lv_istore (lv' := [(6, .int 0), (5, .int 1), (0, .ref b), (1, .ref (aa 0)), (2, .ref (aa 29)), (3, .ref (aa 41)), (4, .int (nI (4 * i)))]) hx hb dL_law_1242 hl (by decide) rfl (fun ls hl => ?_)
    refine lv_aload_n hx hb dL_law_1244 rfl (lv_at hl 4 rfl) ?_
    refine rdV (As := []) (rest := []) ⟨hx, hb, hml, hown, hts⟩ (c_X7_thrown l D z q (aa 29) 1 (aa 30) (aa 31) (aa 32) (aa 33) (aa 34) (aa 35) (aa 36) (aa 37) (aa 38) (aa 39) (aa 40) pl ct ti sh ia pr ltM tyM zz po ml me ek ef wt wh sn kpM dy) (cwV 0 hts gL_law_X7_thrown rfl rfl rfl hd_X7_thrown ⟨Nat.le_of_ble_eq_true rfl, Nat.le_of_ble_eq_true rfl⟩) hE hS hA hP [29, 30, 31, 32, 33, 34, 35, 36, 37, 38, 39, 40] rfl rfl rfl rfl rfl hl.1 rfl (Nat.le_of_ble_eq_true rfl) dL_law_1245 ⟨(by show 60 + 8 * i + 3 + 0 ≤ 601024; omega), (by show 4000 + 40 * i + 18 + 0 ≤ 7293034; omega)⟩ ?_
    refine lv_iload hx hb dL_law_1248 (lv_at hl 1 rfl) ?_
    refine lv_icmp_eq (tgt := 1255) hx hb dL_law_1250 (by decide) (fun _ => ?_) (fun c_1 => absurd (by decide) c_1)
    refine lv_iload hx hb dL_law_1255 (lv_at hl 1 rfl) ?_
    refine lv_if_ne (tgt := 1279) hx hb dL_law_1257 (by decide) (fun _ => ?_) (fun c_2 => absurd c_2 (by decide))
    refine lv_goto (tgt := 1466) hx hb dL_law_1279 (by decide) ?_
    exact W.widen (by omega) (by omega) (next pl lo ct ti sh pr ia lt ty kp ek ef ltM tyM kpM wt wh zz po me ml sn dy 1 ov H locs (INV_mono hI) hP hD hS ls (lv_sub hl [2, 3, 4, 5, 6] rfl))
  · refine lv_aload_n hx hb dL_law_1219 rfl (lv_at hl 1 rfl) ?_
    refine lv_aload_n hx hb dL_law_1220 rfl (lv_at hl 0 rfl) ?_
    refine lv_iload hx hb dL_law_1221 (lv_at hl 4 rfl) ?_
    refine lv_iconst (v := 1) hx hb dL_law_1223 (by decide) ?_
    refine lv_iadd hx hb dL_law_1224 ?_
    refine mSld hx hb hX hbl hbA hS (show vp_in (nI (4 * i) + 1) L from in4 (k := 1) (by omega) hL) hv1 dL_law_1225 ?_
    refine lv_aload_n hx hb dL_law_1226 rfl (lv_at hl 3 rfl) ?_
    refine hwS (As := [.ref (aa 0), .int v1, .ref (aa 41)]) (rest := []) ⟨hx, hb, hml, hown, hts⟩ (c_L_isIn_1 l D z q (aa 0) (aa 1) (aa 6) (aa 15) (aa 17) (aa 22) (aa 25) (aa 27) dy (aa 16) ia v1 (aa 41) ov H.size e0 hlt) (vx_cwSW 3 hts gL_law_L_isIn rfl rfl rfl hd_L_isIn.2 ⟨Nat.le_of_ble_eq_true rfl, Nat.le_of_ble_eq_true rfl⟩) hE hS hA hP hD [0, 15, 16, 41] rfl rfl rfl rfl hl.1 rfl (Nat.le_of_ble_eq_true rfl) dL_law_1227 ⟨(by show 60 + 8 * i + 3 ≤ 601024; omega), (by show 4000 + 40 * i + 18 ≤ 7293034; omega)⟩ (fun H locs hP hD hS => ?_)
    have hP : va_P D vwCl (lawW z aa pl lo ct ti sh pr ia lt ty kp ek ef wt wh zz po me ml sn dy pl ct ti sh pr ia ltM tyM kpM ek ef wt wh zz po me ml sn dy th (vp_updL ov (0 : Int32).toNatClampNeg (if (lIn ia v1) = 0 then 0 else 1))) H := hP
    have hD : va_D (fun x : Nat => s.heap.size ≤ x) (lawW z aa pl lo ct ti sh pr ia lt ty kp ek ef wt wh zz po me ml sn dy pl ct ti sh pr ia ltM tyM kpM ek ef wt wh zz po me ml sn dy th (vp_updL ov (0 : Int32).toNatClampNeg (if (lIn ia v1) = 0 then 0 else 1))) := hD
    refine lv_istore (lv' := [(5, .int 0), (0, .ref b), (1, .ref (aa 0)), (2, .ref (aa 29)), (3, .ref (aa 41)), (4, .int (nI (4 * i)))]) hx hb dL_law_1230 hl (by decide) rfl (fun ls hl => ?_)
    refine lv_aload_n hx hb dL_law_1232 rfl (lv_at hl 3 rfl) ?_
    refine lv_aload_n hx hb dL_law_1233 rfl (lv_at hl 1 rfl) ?_
    refine lv_iload hx hb dL_law_1234 (lv_at hl 5 rfl) ?_
    refine lv_iconst (v := 1) hx hb dL_law_1236 (by decide) ?_
    refine lv_iadd hx hb dL_law_1237 ?_
    refine mSld hx hb hX hbl hbA hS (show vp_in (nI (4 * i) + 1) L from in4 (k := 1) (by omega) hL) hv1 dL_law_1238 ?_
    refine wrVi (As := [.int v1]) (rest := []) ⟨hx, hb, hml, hown, hts⟩ (c_X7_isIn_ok l D z q (aa 29) th (aa 30) (aa 31) (aa 32) (aa 33) (aa 34) (aa 35) (aa 36) (aa 37) (aa 38) (aa 39) (aa 40) pl ct ti sh ia pr ltM tyM zz po ml me ek ef wt wh sn kpM dy v1 H.size e0) (cwV 1 hts gL_law_X7_isIn rfl rfl rfl hd_X7_isIn ⟨Nat.le_of_ble_eq_true rfl, Nat.le_of_ble_eq_true rfl⟩) hE hS hA hP hD [29, 30, 31, 32, 33, 34, 35, 36, 37, 38, 39, 40] rfl rfl rfl rfl rfl rfl rfl hl.1 rfl (Nat.le_of_ble_eq_true rfl) dL_law_1239 ⟨(by show 60 + 8 * i + 3 + 0 ≤ 601024; omega), (by show 4000 + 40 * i + 18 + 0 ≤ 7293034; omega)⟩ (fun H locs hP hD hS => ?_)
    have hP : va_P D vwCl (lawW z aa pl lo ct ti sh pr ia lt ty kp ek ef wt wh zz po me ml sn dy pl ct ti sh pr ia ltM tyM kpM ek ef wt wh zz po me ml sn dy 0 (vp_updL ov (0 : Int32).toNatClampNeg (if (lIn ia v1) = 0 then 0 else 1))) H := hP
    have hD : va_D (fun x : Nat => s.heap.size ≤ x) (lawW z aa pl lo ct ti sh pr ia lt ty kp ek ef wt wh zz po me ml sn dy pl ct ti sh pr ia ltM tyM kpM ek ef wt wh zz po me ml sn dy 0 (vp_updL ov (0 : Int32).toNatClampNeg (if (lIn ia v1) = 0 then 0 else 1))) := hD
    refine lv_istore (lv' := [(6, .int (lIn ia v1)), (5, .int 0), (0, .ref b), (1, .ref (aa 0)), (2, .ref (aa 29)), (3, .ref (aa 41)), (4, .int (nI (4 * i)))]) hx hb dL_law_1242 hl (by decide) rfl (fun ls hl => ?_)
    refine lv_aload_n hx hb dL_law_1244 rfl (lv_at hl 4 rfl) ?_
    refine rdV (As := []) (rest := []) ⟨hx, hb, hml, hown, hts⟩ (c_X7_thrown l D z q (aa 29) 0 (aa 30) (aa 31) (aa 32) (aa 33) (aa 34) (aa 35) (aa 36) (aa 37) (aa 38) (aa 39) (aa 40) pl ct ti sh ia pr ltM tyM zz po ml me ek ef wt wh sn kpM dy) (cwV 0 hts gL_law_X7_thrown rfl rfl rfl hd_X7_thrown ⟨Nat.le_of_ble_eq_true rfl, Nat.le_of_ble_eq_true rfl⟩) hE hS hA hP [29, 30, 31, 32, 33, 34, 35, 36, 37, 38, 39, 40] rfl rfl rfl rfl rfl hl.1 rfl (Nat.le_of_ble_eq_true rfl) dL_law_1245 ⟨(by show 60 + 8 * i + 3 + 0 ≤ 601024; omega), (by show 4000 + 40 * i + 18 + 0 ≤ 7293034; omega)⟩ ?_
    refine lv_iload hx hb dL_law_1248 (lv_at hl 1 rfl) ?_
    refine lv_icmp_eq (tgt := 1255) hx hb dL_law_1250 (by decide) (fun _ => ?_) (fun c_1 => absurd (by decide) c_1)
    refine lv_iload hx hb dL_law_1255 (lv_at hl 1 rfl) ?_
    refine lv_if_ne (tgt := 1279) hx hb dL_law_1257 (by decide) (fun c_2 => absurd (by decide) c_2) (fun _ => ?_)
    refine lv_aload_n hx hb dL_law_1260 rfl (lv_at hl 5 rfl) ?_
    refine lv_iconst (v := 0) hx hb dL_law_1261 (by decide) ?_
    refine va_lald hx hb hK hP 41 2 rfl rfl in0 dL_law_1262 ?_
    refine lv_iload hx hb dL_law_1263 (lv_at hl 0 rfl) ?_
    refine lv_if_eq (tgt := 1272) hx hb dL_law_1265 (by decide) (fun c_3 => ?_) (fun c_3 => ?_)
    · refine lv_lconst (v := 0) hx hb dL_law_1272 rfl ?_
      refine W.lcmp hx hb dL_law_1273 ?_
      refine lv_if_eq (tgt := 1279) hx hb dL_law_1274 (by decide) (fun _ => ?_) (fun c_4 => absurd (lgu (by rw [if_pos c_3])) c_4)
      refine lv_goto (tgt := 1466) hx hb dL_law_1279 (by decide) ?_
      exact W.widen (by omega) (by omega) (next pl lo ct ti sh pr ia lt ty kp ek ef ltM tyM kpM wt wh zz po me ml sn dy 0 (vp_updL ov (0 : Int32).toNatClampNeg (if (lIn ia v1) = 0 then 0 else 1)) H locs (INV_mono hI) hP hD hS ls (lv_sub hl [2, 3, 4, 5, 6] rfl))
    · refine lv_lconst (v := 1) hx hb dL_law_1268 rfl ?_
      refine lv_goto (tgt := 1273) hx hb dL_law_1269 (by decide) ?_
      refine W.lcmp hx hb dL_law_1273 ?_
      refine lv_if_eq (tgt := 1279) hx hb dL_law_1274 (by decide) (fun _ => ?_) (fun c_5 => absurd (lgu (by rw [if_neg c_3])) c_5)
      refine lv_goto (tgt := 1466) hx hb dL_law_1279 (by decide) ?_
      exact W.widen (by omega) (by omega) (next pl lo ct ti sh pr ia lt ty kp ek ef ltM tyM kpM wt wh zz po me ml sn dy 0 (vp_updL ov (0 : Int32).toNatClampNeg (if (lIn ia v1) = 0 then 0 else 1)) H locs (INV_mono hI) hP hD hS ls (lv_sub hl [2, 3, 4, 5, 6] rfl))
set_option maxHeartbeats 4000000 in
set_option maxRecDepth 100000 in
theorem law_22 {p : Program} {l : Launch} {e : Env} {s : State} {m : MethodId} {below : List Frame} {meth : Method} {c : Code} {D : va_G} {z : Nat → ClassId} {q aa : Nat → Nat} {b L : Nat} {xs : Nat → Int32} {i : Nat} (G : LG p l e s m below meth c D z q b L xs) (h4 : 4 * i + 4 ≤ L) (next : LAW p l e s m below meth c D z aa b 1466 (i + 1) i) : LAW p l e s m below meth c D z aa b 1282 i i := by
  obtain ⟨hx, hb, hml, hown, hts, hX, hbl, hE, hlt, hL⟩ := G
  have hi5 : i < 512 := by omega
  have hbA : ¬ (fun x : Nat => s.heap.size ≤ x) b := Nat.not_le_of_lt hbl
  have hA : ∀ x : Nat, s.heap.size ≤ x → (fun x : Nat => s.heap.size ≤ x) x := fun _ h => h
  have hK := hE.1
  intro pl lo ct ti sh pr ia lt ty kp ek ef ltM tyM kpM wt wh zz po me ml sn dy th ov H locs hI hP hD hS ls hl
  have ⟨hB, hPR, hIO, ⟨zn, hzz, hz40, hlt9, ps, hpo, hps, hty⟩, ⟨mn, hml9, hmn⟩, ⟨sk, hsn, hsk, hkp⟩⟩ := hI
  obtain ⟨v1, hv1⟩ : ∃ v, v = xs (nI (4 * i) + 1).toNatClampNeg := ⟨_, rfl⟩
  by_cases e0 : bW v1 0 25 = 0
  · refine lv_aload_n hx hb dL_law_1282 rfl (lv_at hl 1 rfl) ?_
    refine lv_aload_n hx hb dL_law_1283 rfl (lv_at hl 0 rfl) ?_
    refine lv_iload hx hb dL_law_1284 (lv_at hl 4 rfl) ?_
    refine lv_iconst (v := 1) hx hb dL_law_1286 (by decide) ?_
    refine lv_iadd hx hb dL_law_1287 ?_
    refine mSld hx hb hX hbl hbA hS (show vp_in (nI (4 * i) + 1) L from in4 (k := 1) (by omega) hL) hv1 dL_law_1288 ?_
    refine lv_aload_n hx hb dL_law_1289 rfl (lv_at hl 3 rfl) ?_
    refine hwS (As := [.ref (aa 0), .int v1, .ref (aa 41)]) (rest := []) ⟨hx, hb, hml, hown, hts⟩ (c_L_isGood_0 l D z q (aa 0) (aa 1) (aa 6) (aa 15) (aa 17) (aa 22) (aa 25) (aa 27) dy (aa 7) (aa 8) (aa 9) (aa 10) (aa 11) (aa 12) (aa 13) (aa 14) ct ti sh pr wt wh v1 (aa 41) ov H.size e0 hlt) (vx_cwSW 3 hts gL_law_L_isGood rfl rfl rfl hd_L_isGood.2 ⟨Nat.le_of_ble_eq_true rfl, Nat.le_of_ble_eq_true rfl⟩) hE hS hA hP hD [0, 6, 7, 8, 9, 10, 11, 12, 13, 14, 41] rfl rfl rfl rfl hl.1 rfl (Nat.le_of_ble_eq_true rfl) dL_law_1290 ⟨(by show 60 + 8 * i + 3 ≤ 601024; omega), (by show 4000 + 40 * i + 18 ≤ 7293034; omega)⟩ (fun H locs hP hD hS => ?_)
    have hP : va_P D vwCl (lawW z aa pl lo ct ti sh pr ia lt ty kp ek ef wt wh zz po me ml sn dy pl ct ti sh pr ia ltM tyM kpM ek ef wt wh zz po me ml sn dy th ov) H := hP
    have hD : va_D (fun x : Nat => s.heap.size ≤ x) (lawW z aa pl lo ct ti sh pr ia lt ty kp ek ef wt wh zz po me ml sn dy pl ct ti sh pr ia ltM tyM kpM ek ef wt wh zz po me ml sn dy th ov) := hD
    refine lv_istore (lv' := [(5, .int 1), (0, .ref b), (1, .ref (aa 0)), (2, .ref (aa 29)), (3, .ref (aa 41)), (4, .int (nI (4 * i)))]) hx hb dL_law_1293 hl (by decide) rfl (fun ls hl => ?_)
    refine lv_aload_n hx hb dL_law_1295 rfl (lv_at hl 3 rfl) ?_
    refine lv_aload_n hx hb dL_law_1296 rfl (lv_at hl 1 rfl) ?_
    refine lv_iload hx hb dL_law_1297 (lv_at hl 5 rfl) ?_
    refine lv_iconst (v := 1) hx hb dL_law_1299 (by decide) ?_
    refine lv_iadd hx hb dL_law_1300 ?_
    refine mSld hx hb hX hbl hbA hS (show vp_in (nI (4 * i) + 1) L from in4 (k := 1) (by omega) hL) hv1 dL_law_1301 ?_
    refine wrVi (As := [.int v1]) (rest := []) ⟨hx, hb, hml, hown, hts⟩ (c_X7_isGood_b0 l D z q (aa 29) th (aa 30) (aa 31) (aa 32) (aa 33) (aa 34) (aa 35) (aa 36) (aa 37) (aa 38) (aa 39) (aa 40) pl ct ti sh ia pr ltM tyM zz po ml me ek ef wt wh sn kpM dy v1 H.size e0) (cwV 1 hts gL_law_X7_isGood rfl rfl rfl hd_X7_isGood ⟨Nat.le_of_ble_eq_true rfl, Nat.le_of_ble_eq_true rfl⟩) hE hS hA hP hD [29, 30, 31, 32, 33, 34, 35, 36, 37, 38, 39, 40] rfl rfl rfl rfl rfl rfl rfl hl.1 rfl (Nat.le_of_ble_eq_true rfl) dL_law_1302 ⟨(by show 60 + 8 * i + 3 + 0 ≤ 601024; omega), (by show 4000 + 40 * i + 18 + 0 ≤ 7293034; omega)⟩ (fun H locs hP hD hS => ?_)
    have hP : va_P D vwCl (lawW z aa pl lo ct ti sh pr ia lt ty kp ek ef wt wh zz po me ml sn dy pl ct ti sh pr ia ltM tyM kpM ek ef wt wh zz po me ml sn dy 1 ov) H := hP
    have hD : va_D (fun x : Nat => s.heap.size ≤ x) (lawW z aa pl lo ct ti sh pr ia lt ty kp ek ef wt wh zz po me ml sn dy pl ct ti sh pr ia ltM tyM kpM ek ef wt wh zz po me ml sn dy 1 ov) := hD
    refine lv_istore (lv' := [(6, .int 0), (5, .int 1), (0, .ref b), (1, .ref (aa 0)), (2, .ref (aa 29)), (3, .ref (aa 41)), (4, .int (nI (4 * i)))]) hx hb dL_law_1305 hl (by decide) rfl (fun ls hl => ?_)
    refine lv_aload_n hx hb dL_law_1307 rfl (lv_at hl 4 rfl) ?_
    refine rdV (As := []) (rest := []) ⟨hx, hb, hml, hown, hts⟩ (c_X7_thrown l D z q (aa 29) 1 (aa 30) (aa 31) (aa 32) (aa 33) (aa 34) (aa 35) (aa 36) (aa 37) (aa 38) (aa 39) (aa 40) pl ct ti sh ia pr ltM tyM zz po ml me ek ef wt wh sn kpM dy) (cwV 0 hts gL_law_X7_thrown rfl rfl rfl hd_X7_thrown ⟨Nat.le_of_ble_eq_true rfl, Nat.le_of_ble_eq_true rfl⟩) hE hS hA hP [29, 30, 31, 32, 33, 34, 35, 36, 37, 38, 39, 40] rfl rfl rfl rfl rfl hl.1 rfl (Nat.le_of_ble_eq_true rfl) dL_law_1308 ⟨(by show 60 + 8 * i + 3 + 0 ≤ 601024; omega), (by show 4000 + 40 * i + 18 + 0 ≤ 7293034; omega)⟩ ?_
    refine lv_iload hx hb dL_law_1311 (lv_at hl 1 rfl) ?_
    refine lv_icmp_eq (tgt := 1318) hx hb dL_law_1313 (by decide) (fun _ => ?_) (fun c_1 => absurd (by decide) c_1)
    refine lv_iload hx hb dL_law_1318 (lv_at hl 1 rfl) ?_
    refine lv_if_ne (tgt := 1342) hx hb dL_law_1320 (by decide) (fun _ => ?_) (fun c_2 => absurd c_2 (by decide))
    refine lv_goto (tgt := 1466) hx hb dL_law_1342 (by decide) ?_
    exact W.widen (by omega) (by omega) (next pl lo ct ti sh pr ia lt ty kp ek ef ltM tyM kpM wt wh zz po me ml sn dy 1 ov H locs (INV_mono hI) hP hD hS ls (lv_sub hl [2, 3, 4, 5, 6] rfl))
  · refine lv_aload_n hx hb dL_law_1282 rfl (lv_at hl 1 rfl) ?_
    refine lv_aload_n hx hb dL_law_1283 rfl (lv_at hl 0 rfl) ?_
    refine lv_iload hx hb dL_law_1284 (lv_at hl 4 rfl) ?_
    refine lv_iconst (v := 1) hx hb dL_law_1286 (by decide) ?_
    refine lv_iadd hx hb dL_law_1287 ?_
    refine mSld hx hb hX hbl hbA hS (show vp_in (nI (4 * i) + 1) L from in4 (k := 1) (by omega) hL) hv1 dL_law_1288 ?_
    refine lv_aload_n hx hb dL_law_1289 rfl (lv_at hl 3 rfl) ?_
    refine hwS (As := [.ref (aa 0), .int v1, .ref (aa 41)]) (rest := []) ⟨hx, hb, hml, hown, hts⟩ (c_L_isGood_1 l D z q (aa 0) (aa 1) (aa 6) (aa 15) (aa 17) (aa 22) (aa 25) (aa 27) dy (aa 7) (aa 8) (aa 9) (aa 10) (aa 11) (aa 12) (aa 13) (aa 14) ct ti sh pr wt wh v1 (aa 41) ov H.size e0 hlt) (vx_cwSW 3 hts gL_law_L_isGood rfl rfl rfl hd_L_isGood.2 ⟨Nat.le_of_ble_eq_true rfl, Nat.le_of_ble_eq_true rfl⟩) hE hS hA hP hD [0, 6, 7, 8, 9, 10, 11, 12, 13, 14, 41] rfl rfl rfl rfl hl.1 rfl (Nat.le_of_ble_eq_true rfl) dL_law_1290 ⟨(by show 60 + 8 * i + 3 ≤ 601024; omega), (by show 4000 + 40 * i + 18 ≤ 7293034; omega)⟩ (fun H locs hP hD hS => ?_)
    have hP : va_P D vwCl (lawW z aa pl lo ct ti sh pr ia lt ty kp ek ef wt wh zz po me ml sn dy pl ct ti sh pr ia ltM tyM kpM ek ef wt wh zz po me ml sn dy th (vp_updL ov (0 : Int32).toNatClampNeg (if (fGood ct ti sh wt wh v1) = 0 then 0 else 1))) H := hP
    have hD : va_D (fun x : Nat => s.heap.size ≤ x) (lawW z aa pl lo ct ti sh pr ia lt ty kp ek ef wt wh zz po me ml sn dy pl ct ti sh pr ia ltM tyM kpM ek ef wt wh zz po me ml sn dy th (vp_updL ov (0 : Int32).toNatClampNeg (if (fGood ct ti sh wt wh v1) = 0 then 0 else 1))) := hD
    refine lv_istore (lv' := [(5, .int 0), (0, .ref b), (1, .ref (aa 0)), (2, .ref (aa 29)), (3, .ref (aa 41)), (4, .int (nI (4 * i)))]) hx hb dL_law_1293 hl (by decide) rfl (fun ls hl => ?_)
    refine lv_aload_n hx hb dL_law_1295 rfl (lv_at hl 3 rfl) ?_
    refine lv_aload_n hx hb dL_law_1296 rfl (lv_at hl 1 rfl) ?_
    refine lv_iload hx hb dL_law_1297 (lv_at hl 5 rfl) ?_
    refine lv_iconst (v := 1) hx hb dL_law_1299 (by decide) ?_
    refine lv_iadd hx hb dL_law_1300 ?_
    refine mSld hx hb hX hbl hbA hS (show vp_in (nI (4 * i) + 1) L from in4 (k := 1) (by omega) hL) hv1 dL_law_1301 ?_
    refine wrVi (As := [.int v1]) (rest := []) ⟨hx, hb, hml, hown, hts⟩ (c_X7_isGood_ok l D z q (aa 29) th (aa 30) (aa 31) (aa 32) (aa 33) (aa 34) (aa 35) (aa 36) (aa 37) (aa 38) (aa 39) (aa 40) pl ct ti sh ia pr ltM tyM zz po ml me ek ef wt wh sn kpM dy v1 H.size e0) (cwV 1 hts gL_law_X7_isGood rfl rfl rfl hd_X7_isGood ⟨Nat.le_of_ble_eq_true rfl, Nat.le_of_ble_eq_true rfl⟩) hE hS hA hP hD [29, 30, 31, 32, 33, 34, 35, 36, 37, 38, 39, 40] rfl rfl rfl rfl rfl rfl rfl hl.1 rfl (Nat.le_of_ble_eq_true rfl) dL_law_1302 ⟨(by show 60 + 8 * i + 3 + 0 ≤ 601024; omega), (by show 4000 + 40 * i + 18 + 0 ≤ 7293034; omega)⟩ (fun H locs hP hD hS => ?_)
    have hP : va_P D vwCl (lawW z aa pl lo ct ti sh pr ia lt ty kp ek ef wt wh zz po me ml sn dy pl ct ti sh pr ia ltM tyM kpM ek ef wt wh zz po me ml sn dy 0 (vp_updL ov (0 : Int32).toNatClampNeg (if (fGood ct ti sh wt wh v1) = 0 then 0 else 1))) H := hP
    have hD : va_D (fun x : Nat => s.heap.size ≤ x) (lawW z aa pl lo ct ti sh pr ia lt ty kp ek ef wt wh zz po me ml sn dy pl ct ti sh pr ia ltM tyM kpM ek ef wt wh zz po me ml sn dy 0 (vp_updL ov (0 : Int32).toNatClampNeg (if (fGood ct ti sh wt wh v1) = 0 then 0 else 1))) := hD
    refine lv_istore (lv' := [(6, .int (fGood ct ti sh wt wh v1)), (5, .int 0), (0, .ref b), (1, .ref (aa 0)), (2, .ref (aa 29)), (3, .ref (aa 41)), (4, .int (nI (4 * i)))]) hx hb dL_law_1305 hl (by decide) rfl (fun ls hl => ?_)
    refine lv_aload_n hx hb dL_law_1307 rfl (lv_at hl 4 rfl) ?_
    refine rdV (As := []) (rest := []) ⟨hx, hb, hml, hown, hts⟩ (c_X7_thrown l D z q (aa 29) 0 (aa 30) (aa 31) (aa 32) (aa 33) (aa 34) (aa 35) (aa 36) (aa 37) (aa 38) (aa 39) (aa 40) pl ct ti sh ia pr ltM tyM zz po ml me ek ef wt wh sn kpM dy) (cwV 0 hts gL_law_X7_thrown rfl rfl rfl hd_X7_thrown ⟨Nat.le_of_ble_eq_true rfl, Nat.le_of_ble_eq_true rfl⟩) hE hS hA hP [29, 30, 31, 32, 33, 34, 35, 36, 37, 38, 39, 40] rfl rfl rfl rfl rfl hl.1 rfl (Nat.le_of_ble_eq_true rfl) dL_law_1308 ⟨(by show 60 + 8 * i + 3 + 0 ≤ 601024; omega), (by show 4000 + 40 * i + 18 + 0 ≤ 7293034; omega)⟩ ?_
    refine lv_iload hx hb dL_law_1311 (lv_at hl 1 rfl) ?_
    refine lv_icmp_eq (tgt := 1318) hx hb dL_law_1313 (by decide) (fun _ => ?_) (fun c_1 => absurd (by decide) c_1)
    refine lv_iload hx hb dL_law_1318 (lv_at hl 1 rfl) ?_
    refine lv_if_ne (tgt := 1342) hx hb dL_law_1320 (by decide) (fun c_2 => absurd (by decide) c_2) (fun _ => ?_)
    refine lv_aload_n hx hb dL_law_1323 rfl (lv_at hl 5 rfl) ?_
    refine lv_iconst (v := 0) hx hb dL_law_1324 (by decide) ?_
    refine va_lald hx hb hK hP 41 2 rfl rfl in0 dL_law_1325 ?_
    refine lv_iload hx hb dL_law_1326 (lv_at hl 0 rfl) ?_
    refine lv_if_eq (tgt := 1335) hx hb dL_law_1328 (by decide) (fun c_3 => ?_) (fun c_3 => ?_)
    · refine lv_lconst (v := 0) hx hb dL_law_1335 rfl ?_
      refine W.lcmp hx hb dL_law_1336 ?_
      refine lv_if_eq (tgt := 1342) hx hb dL_law_1337 (by decide) (fun _ => ?_) (fun c_4 => absurd (lgu (by rw [if_pos c_3])) c_4)
      refine lv_goto (tgt := 1466) hx hb dL_law_1342 (by decide) ?_
      exact W.widen (by omega) (by omega) (next pl lo ct ti sh pr ia lt ty kp ek ef ltM tyM kpM wt wh zz po me ml sn dy 0 (vp_updL ov (0 : Int32).toNatClampNeg (if (fGood ct ti sh wt wh v1) = 0 then 0 else 1)) H locs (INV_mono hI) hP hD hS ls (lv_sub hl [2, 3, 4, 5, 6] rfl))
    · refine lv_lconst (v := 1) hx hb dL_law_1331 rfl ?_
      refine lv_goto (tgt := 1336) hx hb dL_law_1332 (by decide) ?_
      refine W.lcmp hx hb dL_law_1336 ?_
      refine lv_if_eq (tgt := 1342) hx hb dL_law_1337 (by decide) (fun _ => ?_) (fun c_5 => absurd (lgu (by rw [if_neg c_3])) c_5)
      refine lv_goto (tgt := 1466) hx hb dL_law_1342 (by decide) ?_
      exact W.widen (by omega) (by omega) (next pl lo ct ti sh pr ia lt ty kp ek ef ltM tyM kpM wt wh zz po me ml sn dy 0 (vp_updL ov (0 : Int32).toNatClampNeg (if (fGood ct ti sh wt wh v1) = 0 then 0 else 1)) H locs (INV_mono hI) hP hD hS ls (lv_sub hl [2, 3, 4, 5, 6] rfl))
set_option maxHeartbeats 4000000 in
set_option maxRecDepth 100000 in
theorem law_23 {p : Program} {l : Launch} {e : Env} {s : State} {m : MethodId} {below : List Frame} {meth : Method} {c : Code} {D : va_G} {z : Nat → ClassId} {q aa : Nat → Nat} {b L : Nat} {xs : Nat → Int32} {i : Nat} (G : LG p l e s m below meth c D z q b L xs) (h4 : 4 * i + 4 ≤ L) (next : LAW p l e s m below meth c D z aa b 1466 (i + 1) i) : LAW p l e s m below meth c D z aa b 1345 i i := by
  obtain ⟨hx, hb, hml, hown, hts, hX, hbl, hE, hlt, hL⟩ := G
  have hi5 : i < 512 := by omega
  have hbA : ¬ (fun x : Nat => s.heap.size ≤ x) b := Nat.not_le_of_lt hbl
  have hA : ∀ x : Nat, s.heap.size ≤ x → (fun x : Nat => s.heap.size ≤ x) x := fun _ h => h
  have hK := hE.1
  intro pl lo ct ti sh pr ia lt ty kp ek ef ltM tyM kpM wt wh zz po me ml sn dy th ov H locs hI hP hD hS ls hl
  have ⟨hB, hPR, hIO, ⟨zn, hzz, hz40, hlt9, ps, hpo, hps, hty⟩, ⟨mn, hml9, hmn⟩, ⟨sk, hsn, hsk, hkp⟩⟩ := hI
  refine lv_aload_n hx hb dL_law_1345 rfl (lv_at hl 1 rfl) ?_
  refine rdV (As := []) (rest := []) ⟨hx, hb, hml, hown, hts⟩ (c_X6_weakest l D z q (aa 0) (aa 1) (aa 6) (aa 15) (aa 17) (aa 22) (aa 25) (aa 27) dy (aa 16) ia (aa 7) (aa 8) (aa 9) (aa 10) (aa 11) (aa 12) (aa 13) (aa 14) ct ti sh pr wt wh) (cwV 0 hts gL_law_X6_weakest rfl rfl rfl hd_X6_weakest ⟨Nat.le_of_ble_eq_true rfl, Nat.le_of_ble_eq_true rfl⟩) hE hS hA hP [0, 15, 16, 6, 7, 8, 9, 10, 11, 12, 13, 14] rfl rfl rfl rfl rfl hl.1 rfl (Nat.le_of_ble_eq_true rfl) dL_law_1346 ⟨(by show 60 + 8 * i + 0 ≤ 601024; omega), (by show 4000 + 40 * i + 0 ≤ 7293034; omega)⟩ ?_
  refine lv_aload_n hx hb dL_law_1349 rfl (lv_at hl 2 rfl) ?_
  refine wrVi (As := []) (rest := [.int (lWk ia ti sh 25)]) ⟨hx, hb, hml, hown, hts⟩ (c_X7_weakest l D z q (aa 29) th (aa 30) (aa 31) (aa 32) (aa 33) (aa 34) (aa 35) (aa 36) (aa 37) (aa 38) (aa 39) (aa 40) pl ct ti sh ia pr ltM tyM zz po ml me ek ef wt wh sn kpM dy H.size) (cwV 0 hts gL_law_X7_weakest rfl rfl rfl hd_X7_weakest ⟨Nat.le_of_ble_eq_true rfl, Nat.le_of_ble_eq_true rfl⟩) hE hS hA hP hD [29, 30, 31, 32, 33, 34, 35, 36, 37, 38, 39, 40] rfl rfl rfl rfl rfl rfl rfl hl.1 rfl (Nat.le_of_ble_eq_true rfl) dL_law_1350 ⟨(by show 60 + 8 * i + 0 ≤ 601024; omega), (by show 4000 + 40 * i + 0 ≤ 7293034; omega)⟩ (fun H locs hP hD hS => ?_)
  have hP : va_P D vwCl (lawW z aa pl lo ct ti sh pr ia lt ty kp ek ef wt wh zz po me ml sn dy pl ct ti sh pr ia ltM tyM kpM ek ef wt wh zz po me ml sn dy 0 ov) H := hP
  have hD : va_D (fun x : Nat => s.heap.size ≤ x) (lawW z aa pl lo ct ti sh pr ia lt ty kp ek ef wt wh zz po me ml sn dy pl ct ti sh pr ia ltM tyM kpM ek ef wt wh zz po me ml sn dy 0 ov) := hD
  refine lv_icmp_eq (tgt := 1466) hx hb dL_law_1353 (by decide) (fun _ => ?_) (fun c_1 => absurd (rfl) c_1)
  exact W.widen (by omega) (by omega) (next pl lo ct ti sh pr ia lt ty kp ek ef ltM tyM kpM wt wh zz po me ml sn dy 0 ov H locs (INV_mono hI) hP hD hS ls (lv_sub hl [0, 1, 2, 3, 4] rfl))
set_option maxHeartbeats 4000000 in
set_option maxRecDepth 100000 in
theorem law_24 {p : Program} {l : Launch} {e : Env} {s : State} {m : MethodId} {below : List Frame} {meth : Method} {c : Code} {D : va_G} {z : Nat → ClassId} {q aa : Nat → Nat} {b L : Nat} {xs : Nat → Int32} {i : Nat} (G : LG p l e s m below meth c D z q b L xs) (h4 : 4 * i + 4 ≤ L) (next : LAW p l e s m below meth c D z aa b 1466 (i + 1) i) : LAW p l e s m below meth c D z aa b 1358 i i := by
  obtain ⟨hx, hb, hml, hown, hts, hX, hbl, hE, hlt, hL⟩ := G
  have hi5 : i < 512 := by omega
  have hbA : ¬ (fun x : Nat => s.heap.size ≤ x) b := Nat.not_le_of_lt hbl
  have hA : ∀ x : Nat, s.heap.size ≤ x → (fun x : Nat => s.heap.size ≤ x) x := fun _ h => h
  have hK := hE.1
  intro pl lo ct ti sh pr ia lt ty kp ek ef ltM tyM kpM wt wh zz po me ml sn dy th ov H locs hI hP hD hS ls hl
  have ⟨hB, hPR, hIO, ⟨zn, hzz, hz40, hlt9, ps, hpo, hps, hty⟩, ⟨mn, hml9, hmn⟩, ⟨sk, hsn, hsk, hkp⟩⟩ := hI
  refine lv_aload_n hx hb dL_law_1358 rfl (lv_at hl 1 rfl) ?_
  refine rdV (As := []) (rest := []) ⟨hx, hb, hml, hown, hts⟩ (c_X6_lessons l D z q (aa 0) (aa 1) (aa 6) (aa 15) (aa 17) (aa 22) (aa 25) (aa 27) dy (aa 23) (aa 24) kp sn) (cwV 0 hts gL_law_X6_lessons rfl rfl rfl hd_X6_lessons ⟨Nat.le_of_ble_eq_true rfl, Nat.le_of_ble_eq_true rfl⟩) hE hS hA hP [0, 22, 23, 24] rfl rfl rfl rfl rfl hl.1 rfl (Nat.le_of_ble_eq_true rfl) dL_law_1359 ⟨(by show 60 + 8 * i + 0 ≤ 601024; omega), (by show 4000 + 40 * i + 0 ≤ 7293034; omega)⟩ ?_
  refine lv_aload_n hx hb dL_law_1362 rfl (lv_at hl 2 rfl) ?_
  refine wrVi (As := []) (rest := [.int sn]) ⟨hx, hb, hml, hown, hts⟩ (c_X7_lessons l D z q (aa 29) th (aa 30) (aa 31) (aa 32) (aa 33) (aa 34) (aa 35) (aa 36) (aa 37) (aa 38) (aa 39) (aa 40) pl ct ti sh ia pr ltM tyM zz po ml me ek ef wt wh sn kpM dy H.size) (cwV 0 hts gL_law_X7_lessons rfl rfl rfl hd_X7_lessons ⟨Nat.le_of_ble_eq_true rfl, Nat.le_of_ble_eq_true rfl⟩) hE hS hA hP hD [29, 30, 31, 32, 33, 34, 35, 36, 37, 38, 39, 40] rfl rfl rfl rfl rfl rfl rfl hl.1 rfl (Nat.le_of_ble_eq_true rfl) dL_law_1363 ⟨(by show 60 + 8 * i + 0 ≤ 601024; omega), (by show 4000 + 40 * i + 0 ≤ 7293034; omega)⟩ (fun H locs hP hD hS => ?_)
  have hP : va_P D vwCl (lawW z aa pl lo ct ti sh pr ia lt ty kp ek ef wt wh zz po me ml sn dy pl ct ti sh pr ia ltM tyM kpM ek ef wt wh zz po me ml sn dy 0 ov) H := hP
  have hD : va_D (fun x : Nat => s.heap.size ≤ x) (lawW z aa pl lo ct ti sh pr ia lt ty kp ek ef wt wh zz po me ml sn dy pl ct ti sh pr ia ltM tyM kpM ek ef wt wh zz po me ml sn dy 0 ov) := hD
  refine lv_icmp_eq (tgt := 1466) hx hb dL_law_1366 (by decide) (fun _ => ?_) (fun c_1 => absurd (rfl) c_1)
  exact W.widen (by omega) (by omega) (next pl lo ct ti sh pr ia lt ty kp ek ef ltM tyM kpM wt wh zz po me ml sn dy 0 ov H locs (INV_mono hI) hP hD hS ls (lv_sub hl [0, 1, 2, 3, 4] rfl))
set_option maxHeartbeats 4000000 in
set_option maxRecDepth 100000 in
theorem law_25 {p : Program} {l : Launch} {e : Env} {s : State} {m : MethodId} {below : List Frame} {meth : Method} {c : Code} {D : va_G} {z : Nat → ClassId} {q aa : Nat → Nat} {b L : Nat} {xs : Nat → Int32} {i : Nat} (G : LG p l e s m below meth c D z q b L xs) (h4 : 4 * i + 4 ≤ L) (next : LAW p l e s m below meth c D z aa b 1466 (i + 1) i) : LAW p l e s m below meth c D z aa b 1371 i i := by
  obtain ⟨hx, hb, hml, hown, hts, hX, hbl, hE, hlt, hL⟩ := G
  have hi5 : i < 512 := by omega
  have hbA : ¬ (fun x : Nat => s.heap.size ≤ x) b := Nat.not_le_of_lt hbl
  have hA : ∀ x : Nat, s.heap.size ≤ x → (fun x : Nat => s.heap.size ≤ x) x := fun _ h => h
  have hK := hE.1
  intro pl lo ct ti sh pr ia lt ty kp ek ef ltM tyM kpM wt wh zz po me ml sn dy th ov H locs hI hP hD hS ls hl
  have ⟨hB, hPR, hIO, ⟨zn, hzz, hz40, hlt9, ps, hpo, hps, hty⟩, ⟨mn, hml9, hmn⟩, ⟨sk, hsn, hsk, hkp⟩⟩ := hI
  obtain ⟨v1, hv1⟩ : ∃ v, v = xs (nI (4 * i) + 1).toNatClampNeg := ⟨_, rfl⟩
  by_cases e0 : bW v1 0 (sn - 1) = 0
  · refine lv_aload_n hx hb dL_law_1371 rfl (lv_at hl 1 rfl) ?_
    refine lv_aload_n hx hb dL_law_1372 rfl (lv_at hl 0 rfl) ?_
    refine lv_iload hx hb dL_law_1373 (lv_at hl 4 rfl) ?_
    refine lv_iconst (v := 1) hx hb dL_law_1375 (by decide) ?_
    refine lv_iadd hx hb dL_law_1376 ?_
    refine mSld hx hb hX hbl hbA hS (show vp_in (nI (4 * i) + 1) L from in4 (k := 1) (by omega) hL) hv1 dL_law_1377 ?_
    refine lv_aload_n hx hb dL_law_1378 rfl (lv_at hl 3 rfl) ?_
    refine hwS (As := [.ref (aa 0), .int v1, .ref (aa 41)]) (rest := []) ⟨hx, hb, hml, hown, hts⟩ (c_L_speedOf_0 l D z q (aa 0) (aa 1) (aa 6) (aa 15) (aa 17) (aa 22) (aa 25) (aa 27) dy (aa 23) (aa 24) kp sn v1 (aa 41) ov H.size e0 hlt) (vx_cwSW 3 hts gL_law_L_speedOf rfl rfl rfl hd_L_speedOf.2 ⟨Nat.le_of_ble_eq_true rfl, Nat.le_of_ble_eq_true rfl⟩) hE hS hA hP hD [0, 22, 23, 24, 41] rfl rfl rfl rfl hl.1 rfl (Nat.le_of_ble_eq_true rfl) dL_law_1379 ⟨(by show 60 + 8 * i + 3 ≤ 601024; omega), (by show 4000 + 40 * i + 18 ≤ 7293034; omega)⟩ (fun H locs hP hD hS => ?_)
    have hP : va_P D vwCl (lawW z aa pl lo ct ti sh pr ia lt ty kp ek ef wt wh zz po me ml sn dy pl ct ti sh pr ia ltM tyM kpM ek ef wt wh zz po me ml sn dy th ov) H := hP
    have hD : va_D (fun x : Nat => s.heap.size ≤ x) (lawW z aa pl lo ct ti sh pr ia lt ty kp ek ef wt wh zz po me ml sn dy pl ct ti sh pr ia ltM tyM kpM ek ef wt wh zz po me ml sn dy th ov) := hD
    refine lv_istore (lv' := [(5, .int 1), (0, .ref b), (1, .ref (aa 0)), (2, .ref (aa 29)), (3, .ref (aa 41)), (4, .int (nI (4 * i)))]) hx hb dL_law_1382 hl (by decide) rfl (fun ls hl => ?_)
    refine lv_aload_n hx hb dL_law_1384 rfl (lv_at hl 3 rfl) ?_
    refine lv_aload_n hx hb dL_law_1385 rfl (lv_at hl 1 rfl) ?_
    refine lv_iload hx hb dL_law_1386 (lv_at hl 5 rfl) ?_
    refine lv_iconst (v := 1) hx hb dL_law_1388 (by decide) ?_
    refine lv_iadd hx hb dL_law_1389 ?_
    refine mSld hx hb hX hbl hbA hS (show vp_in (nI (4 * i) + 1) L from in4 (k := 1) (by omega) hL) hv1 dL_law_1390 ?_
    refine wrVi (As := [.int v1]) (rest := []) ⟨hx, hb, hml, hown, hts⟩ (c_X7_speedOf_b0 l D z q (aa 29) th (aa 30) (aa 31) (aa 32) (aa 33) (aa 34) (aa 35) (aa 36) (aa 37) (aa 38) (aa 39) (aa 40) pl ct ti sh ia pr ltM tyM zz po ml me ek ef wt wh sn kpM dy v1 H.size e0) (cwV 1 hts gL_law_X7_speedOf rfl rfl rfl hd_X7_speedOf ⟨Nat.le_of_ble_eq_true rfl, Nat.le_of_ble_eq_true rfl⟩) hE hS hA hP hD [29, 30, 31, 32, 33, 34, 35, 36, 37, 38, 39, 40] rfl rfl rfl rfl rfl rfl rfl hl.1 rfl (Nat.le_of_ble_eq_true rfl) dL_law_1391 ⟨(by show 60 + 8 * i + 3 + 0 ≤ 601024; omega), (by show 4000 + 40 * i + 18 + 0 ≤ 7293034; omega)⟩ (fun H locs hP hD hS => ?_)
    have hP : va_P D vwCl (lawW z aa pl lo ct ti sh pr ia lt ty kp ek ef wt wh zz po me ml sn dy pl ct ti sh pr ia ltM tyM kpM ek ef wt wh zz po me ml sn dy 1 ov) H := hP
    have hD : va_D (fun x : Nat => s.heap.size ≤ x) (lawW z aa pl lo ct ti sh pr ia lt ty kp ek ef wt wh zz po me ml sn dy pl ct ti sh pr ia ltM tyM kpM ek ef wt wh zz po me ml sn dy 1 ov) := hD
    refine lv_istore (lv' := [(6, .int 0), (5, .int 1), (0, .ref b), (1, .ref (aa 0)), (2, .ref (aa 29)), (3, .ref (aa 41)), (4, .int (nI (4 * i)))]) hx hb dL_law_1394 hl (by decide) rfl (fun ls hl => ?_)
    refine lv_aload_n hx hb dL_law_1396 rfl (lv_at hl 4 rfl) ?_
    refine rdV (As := []) (rest := []) ⟨hx, hb, hml, hown, hts⟩ (c_X7_thrown l D z q (aa 29) 1 (aa 30) (aa 31) (aa 32) (aa 33) (aa 34) (aa 35) (aa 36) (aa 37) (aa 38) (aa 39) (aa 40) pl ct ti sh ia pr ltM tyM zz po ml me ek ef wt wh sn kpM dy) (cwV 0 hts gL_law_X7_thrown rfl rfl rfl hd_X7_thrown ⟨Nat.le_of_ble_eq_true rfl, Nat.le_of_ble_eq_true rfl⟩) hE hS hA hP [29, 30, 31, 32, 33, 34, 35, 36, 37, 38, 39, 40] rfl rfl rfl rfl rfl hl.1 rfl (Nat.le_of_ble_eq_true rfl) dL_law_1397 ⟨(by show 60 + 8 * i + 3 + 0 ≤ 601024; omega), (by show 4000 + 40 * i + 18 + 0 ≤ 7293034; omega)⟩ ?_
    refine lv_iload hx hb dL_law_1400 (lv_at hl 1 rfl) ?_
    refine lv_icmp_eq (tgt := 1407) hx hb dL_law_1402 (by decide) (fun _ => ?_) (fun c_1 => absurd (by decide) c_1)
    refine lv_iload hx hb dL_law_1407 (lv_at hl 1 rfl) ?_
    refine lv_if_ne (tgt := 1424) hx hb dL_law_1409 (by decide) (fun _ => ?_) (fun c_2 => absurd c_2 (by decide))
    refine lv_goto (tgt := 1466) hx hb dL_law_1424 (by decide) ?_
    exact W.widen (by omega) (by omega) (next pl lo ct ti sh pr ia lt ty kp ek ef ltM tyM kpM wt wh zz po me ml sn dy 1 ov H locs (INV_mono hI) hP hD hS ls (lv_sub hl [2, 3, 4, 5, 6] rfl))
  · refine lv_aload_n hx hb dL_law_1371 rfl (lv_at hl 1 rfl) ?_
    refine lv_aload_n hx hb dL_law_1372 rfl (lv_at hl 0 rfl) ?_
    refine lv_iload hx hb dL_law_1373 (lv_at hl 4 rfl) ?_
    refine lv_iconst (v := 1) hx hb dL_law_1375 (by decide) ?_
    refine lv_iadd hx hb dL_law_1376 ?_
    refine mSld hx hb hX hbl hbA hS (show vp_in (nI (4 * i) + 1) L from in4 (k := 1) (by omega) hL) hv1 dL_law_1377 ?_
    refine lv_aload_n hx hb dL_law_1378 rfl (lv_at hl 3 rfl) ?_
    refine hwS (As := [.ref (aa 0), .int v1, .ref (aa 41)]) (rest := []) ⟨hx, hb, hml, hown, hts⟩ (c_L_speedOf_1 l D z q (aa 0) (aa 1) (aa 6) (aa 15) (aa 17) (aa 22) (aa 25) (aa 27) dy (aa 23) (aa 24) kp sn v1 (aa 41) ov H.size e0 hlt) (vx_cwSW 3 hts gL_law_L_speedOf rfl rfl rfl hd_L_speedOf.2 ⟨Nat.le_of_ble_eq_true rfl, Nat.le_of_ble_eq_true rfl⟩) hE hS hA hP hD [0, 22, 23, 24, 41] rfl rfl rfl rfl hl.1 rfl (Nat.le_of_ble_eq_true rfl) dL_law_1379 ⟨(by show 60 + 8 * i + 3 ≤ 601024; omega), (by show 4000 + 40 * i + 18 ≤ 7293034; omega)⟩ (fun H locs hP hD hS => ?_)
    have hP : va_P D vwCl (lawW z aa pl lo ct ti sh pr ia lt ty kp ek ef wt wh zz po me ml sn dy pl ct ti sh pr ia ltM tyM kpM ek ef wt wh zz po me ml sn dy th (vp_updL ov (0 : Int32).toNatClampNeg (cAt 100 kp v1).toInt64)) H := hP
    have hD : va_D (fun x : Nat => s.heap.size ≤ x) (lawW z aa pl lo ct ti sh pr ia lt ty kp ek ef wt wh zz po me ml sn dy pl ct ti sh pr ia ltM tyM kpM ek ef wt wh zz po me ml sn dy th (vp_updL ov (0 : Int32).toNatClampNeg (cAt 100 kp v1).toInt64)) := hD
    refine lv_istore (lv' := [(5, .int 0), (0, .ref b), (1, .ref (aa 0)), (2, .ref (aa 29)), (3, .ref (aa 41)), (4, .int (nI (4 * i)))]) hx hb dL_law_1382 hl (by decide) rfl (fun ls hl => ?_)
    refine lv_aload_n hx hb dL_law_1384 rfl (lv_at hl 3 rfl) ?_
    refine lv_aload_n hx hb dL_law_1385 rfl (lv_at hl 1 rfl) ?_
    refine lv_iload hx hb dL_law_1386 (lv_at hl 5 rfl) ?_
    refine lv_iconst (v := 1) hx hb dL_law_1388 (by decide) ?_
    refine lv_iadd hx hb dL_law_1389 ?_
    refine mSld hx hb hX hbl hbA hS (show vp_in (nI (4 * i) + 1) L from in4 (k := 1) (by omega) hL) hv1 dL_law_1390 ?_
    refine wrVi (As := [.int v1]) (rest := []) ⟨hx, hb, hml, hown, hts⟩ (c_X7_speedOf_ok l D z q (aa 29) th (aa 30) (aa 31) (aa 32) (aa 33) (aa 34) (aa 35) (aa 36) (aa 37) (aa 38) (aa 39) (aa 40) pl ct ti sh ia pr ltM tyM zz po ml me ek ef wt wh sn kpM dy v1 H.size e0 (of_rel hsn hsk hkp e0).1) (cwV 1 hts gL_law_X7_speedOf rfl rfl rfl hd_X7_speedOf ⟨Nat.le_of_ble_eq_true rfl, Nat.le_of_ble_eq_true rfl⟩) hE hS hA hP hD [29, 30, 31, 32, 33, 34, 35, 36, 37, 38, 39, 40] rfl rfl rfl rfl rfl rfl rfl hl.1 rfl (Nat.le_of_ble_eq_true rfl) dL_law_1391 ⟨(by show 60 + 8 * i + 3 + 0 ≤ 601024; omega), (by show 4000 + 40 * i + 18 + 0 ≤ 7293034; omega)⟩ (fun H locs hP hD hS => ?_)
    have hP : va_P D vwCl (lawW z aa pl lo ct ti sh pr ia lt ty kp ek ef wt wh zz po me ml sn dy pl ct ti sh pr ia ltM tyM kpM ek ef wt wh zz po me ml sn dy 0 (vp_updL ov (0 : Int32).toNatClampNeg (cAt 100 kp v1).toInt64)) H := hP
    have hD : va_D (fun x : Nat => s.heap.size ≤ x) (lawW z aa pl lo ct ti sh pr ia lt ty kp ek ef wt wh zz po me ml sn dy pl ct ti sh pr ia ltM tyM kpM ek ef wt wh zz po me ml sn dy 0 (vp_updL ov (0 : Int32).toNatClampNeg (cAt 100 kp v1).toInt64)) := hD
    refine lv_istore (lv' := [(6, .int (cAt 100 kpM v1)), (5, .int 0), (0, .ref b), (1, .ref (aa 0)), (2, .ref (aa 29)), (3, .ref (aa 41)), (4, .int (nI (4 * i)))]) hx hb dL_law_1394 hl (by decide) rfl (fun ls hl => ?_)
    refine lv_aload_n hx hb dL_law_1396 rfl (lv_at hl 4 rfl) ?_
    refine rdV (As := []) (rest := []) ⟨hx, hb, hml, hown, hts⟩ (c_X7_thrown l D z q (aa 29) 0 (aa 30) (aa 31) (aa 32) (aa 33) (aa 34) (aa 35) (aa 36) (aa 37) (aa 38) (aa 39) (aa 40) pl ct ti sh ia pr ltM tyM zz po ml me ek ef wt wh sn kpM dy) (cwV 0 hts gL_law_X7_thrown rfl rfl rfl hd_X7_thrown ⟨Nat.le_of_ble_eq_true rfl, Nat.le_of_ble_eq_true rfl⟩) hE hS hA hP [29, 30, 31, 32, 33, 34, 35, 36, 37, 38, 39, 40] rfl rfl rfl rfl rfl hl.1 rfl (Nat.le_of_ble_eq_true rfl) dL_law_1397 ⟨(by show 60 + 8 * i + 3 + 0 ≤ 601024; omega), (by show 4000 + 40 * i + 18 + 0 ≤ 7293034; omega)⟩ ?_
    refine lv_iload hx hb dL_law_1400 (lv_at hl 1 rfl) ?_
    refine lv_icmp_eq (tgt := 1407) hx hb dL_law_1402 (by decide) (fun _ => ?_) (fun c_1 => absurd (by decide) c_1)
    refine lv_iload hx hb dL_law_1407 (lv_at hl 1 rfl) ?_
    refine lv_if_ne (tgt := 1424) hx hb dL_law_1409 (by decide) (fun c_2 => absurd (by decide) c_2) (fun _ => ?_)
    refine lv_aload_n hx hb dL_law_1412 rfl (lv_at hl 5 rfl) ?_
    refine lv_iconst (v := 0) hx hb dL_law_1413 (by decide) ?_
    refine va_lald hx hb hK hP 41 2 rfl rfl in0 dL_law_1414 ?_
    refine lv_iload hx hb dL_law_1415 (lv_at hl 0 rfl) ?_
    refine lv_i2l (v := (cAt 100 kpM v1).toInt64) hx hb dL_law_1417 rfl ?_
    refine W.lcmp hx hb dL_law_1418 ?_
    refine lv_if_eq (tgt := 1424) hx hb dL_law_1419 (by decide) (fun _ => ?_) (fun c_3 => absurd (lgu (congrArg Int32.toInt64 ((of_rel hsn hsk hkp e0).2))) c_3)
    refine lv_goto (tgt := 1466) hx hb dL_law_1424 (by decide) ?_
    exact W.widen (by omega) (by omega) (next pl lo ct ti sh pr ia lt ty kp ek ef ltM tyM kpM wt wh zz po me ml sn dy 0 (vp_updL ov (0 : Int32).toNatClampNeg (cAt 100 kp v1).toInt64) H locs (INV_mono hI) hP hD hS ls (lv_sub hl [2, 3, 4, 5, 6] rfl))
set_option maxHeartbeats 4000000 in
set_option maxRecDepth 100000 in
theorem law_26 {p : Program} {l : Launch} {e : Env} {s : State} {m : MethodId} {below : List Frame} {meth : Method} {c : Code} {D : va_G} {z : Nat → ClassId} {q aa : Nat → Nat} {b L : Nat} {xs : Nat → Int32} {i : Nat} (G : LG p l e s m below meth c D z q b L xs) (h4 : 4 * i + 4 ≤ L) (next : LAW p l e s m below meth c D z aa b 1466 (i + 1) i) : LAW p l e s m below meth c D z aa b 1427 i i := by
  obtain ⟨hx, hb, hml, hown, hts, hX, hbl, hE, hlt, hL⟩ := G
  have hi5 : i < 512 := by omega
  have hbA : ¬ (fun x : Nat => s.heap.size ≤ x) b := Nat.not_le_of_lt hbl
  have hA : ∀ x : Nat, s.heap.size ≤ x → (fun x : Nat => s.heap.size ≤ x) x := fun _ h => h
  have hK := hE.1
  intro pl lo ct ti sh pr ia lt ty kp ek ef ltM tyM kpM wt wh zz po me ml sn dy th ov H locs hI hP hD hS ls hl
  have ⟨hB, hPR, hIO, ⟨zn, hzz, hz40, hlt9, ps, hpo, hps, hty⟩, ⟨mn, hml9, hmn⟩, ⟨sk, hsn, hsk, hkp⟩⟩ := hI
  refine lv_aload_n hx hb dL_law_1427 rfl (lv_at hl 1 rfl) ?_
  refine rdV (As := []) (rest := []) ⟨hx, hb, hml, hown, hts⟩ (c_X6_falls l D z q (aa 0) (aa 1) (aa 6) (aa 15) (aa 17) (aa 22) (aa 25) (aa 27) dy (aa 23) (aa 24) kp sn sk hsn hsk) (cwV 0 hts gL_law_X6_falls rfl rfl rfl hd_X6_falls ⟨Nat.le_of_ble_eq_true rfl, Nat.le_of_ble_eq_true rfl⟩) hE hS hA hP [0, 22, 23, 24] rfl rfl rfl rfl rfl hl.1 rfl (Nat.le_of_ble_eq_true rfl) dL_law_1428 ⟨(by show 60 + 8 * i + 0 ≤ 601024; omega), (by show 4000 + 40 * i + 0 ≤ 7293034; omega)⟩ ?_
  refine lv_aload_n hx hb dL_law_1431 rfl (lv_at hl 2 rfl) ?_
  refine wrVi (As := []) (rest := [.int (nI (pFall kp (sk - 1)))]) ⟨hx, hb, hml, hown, hts⟩ (c_X7_falls l D z q (aa 29) th (aa 30) (aa 31) (aa 32) (aa 33) (aa 34) (aa 35) (aa 36) (aa 37) (aa 38) (aa 39) (aa 40) pl ct ti sh ia pr ltM tyM zz po ml me ek ef wt wh sn kpM dy sk H.size hsn hsk) (cwV 0 hts gL_law_X7_falls rfl rfl rfl hd_X7_falls ⟨Nat.le_of_ble_eq_true rfl, Nat.le_of_ble_eq_true rfl⟩) hE hS hA hP hD [29, 30, 31, 32, 33, 34, 35, 36, 37, 38, 39, 40] rfl rfl rfl rfl rfl rfl rfl hl.1 rfl (Nat.le_of_ble_eq_true rfl) dL_law_1432 ⟨(by show 60 + 8 * i + 0 ≤ 601024; omega), (by show 4000 + 40 * i + 0 ≤ 7293034; omega)⟩ (fun H locs hP hD hS => ?_)
  have hP : va_P D vwCl (lawW z aa pl lo ct ti sh pr ia lt ty kp ek ef wt wh zz po me ml sn dy pl ct ti sh pr ia ltM tyM kpM ek ef wt wh zz po me ml sn dy 0 ov) H := hP
  have hD : va_D (fun x : Nat => s.heap.size ≤ x) (lawW z aa pl lo ct ti sh pr ia lt ty kp ek ef wt wh zz po me ml sn dy pl ct ti sh pr ia ltM tyM kpM ek ef wt wh zz po me ml sn dy 0 ov) := hD
  refine lv_icmp_eq (tgt := 1466) hx hb dL_law_1435 (by decide) (fun _ => ?_) (fun c_1 => absurd ((by rw [falls_rel hsk hkp])) c_1)
  exact W.widen (by omega) (by omega) (next pl lo ct ti sh pr ia lt ty kp ek ef ltM tyM kpM wt wh zz po me ml sn dy 0 ov H locs (INV_mono hI) hP hD hS ls (lv_sub hl [0, 1, 2, 3, 4] rfl))
set_option maxHeartbeats 4000000 in
set_option maxRecDepth 100000 in
theorem law_27 {p : Program} {l : Launch} {e : Env} {s : State} {m : MethodId} {below : List Frame} {meth : Method} {c : Code} {D : va_G} {z : Nat → ClassId} {q aa : Nat → Nat} {b L : Nat} {xs : Nat → Int32} {i : Nat} (G : LG p l e s m below meth c D z q b L xs) (h4 : 4 * i + 4 ≤ L) (next : LAW p l e s m below meth c D z aa b 1466 (i + 1) i) : LAW p l e s m below meth c D z aa b 1440 i i := by
  obtain ⟨hx, hb, hml, hown, hts, hX, hbl, hE, hlt, hL⟩ := G
  have hi5 : i < 512 := by omega
  have hbA : ¬ (fun x : Nat => s.heap.size ≤ x) b := Nat.not_le_of_lt hbl
  have hA : ∀ x : Nat, s.heap.size ≤ x → (fun x : Nat => s.heap.size ≤ x) x := fun _ h => h
  have hK := hE.1
  intro pl lo ct ti sh pr ia lt ty kp ek ef ltM tyM kpM wt wh zz po me ml sn dy th ov H locs hI hP hD hS ls hl
  have ⟨hB, hPR, hIO, ⟨zn, hzz, hz40, hlt9, ps, hpo, hps, hty⟩, ⟨mn, hml9, hmn⟩, ⟨sk, hsn, hsk, hkp⟩⟩ := hI
  refine lv_aload_n hx hb dL_law_1440 rfl (lv_at hl 1 rfl) ?_
  refine wrVi (As := []) (rest := []) ⟨hx, hb, hml, hown, hts⟩ (c_X6_endDay l D z q (aa 0) (aa 1) (aa 6) (aa 15) (aa 17) (aa 22) (aa 25) (aa 27) dy (aa 7) (aa 8) (aa 9) (aa 10) (aa 11) (aa 12) (aa 13) (aa 14) ct ti sh pr wt wh H.size) (cwV 0 hts gL_law_X6_endDay rfl rfl rfl hd_X6_endDay ⟨Nat.le_of_ble_eq_true rfl, Nat.le_of_ble_eq_true rfl⟩) hE hS hA hP hD [0, 6, 7, 8, 9, 10, 11, 12, 13, 14] rfl rfl rfl rfl rfl rfl rfl hl.1 rfl (Nat.le_of_ble_eq_true rfl) dL_law_1441 ⟨(by show 60 + 8 * i + 0 ≤ 601024; omega), (by show 4000 + 40 * i + 0 ≤ 7293034; omega)⟩ (fun H locs hP hD hS => ?_)
  have hP : va_P D vwCl (lawW z aa pl lo (fHalf ct 26) ti sh pr ia lt ty kp ek ef wt wh zz po me ml sn 0 pl ct ti sh pr ia ltM tyM kpM ek ef wt wh zz po me ml sn dy th ov) H := hP
  have hD : va_D (fun x : Nat => s.heap.size ≤ x) (lawW z aa pl lo (fHalf ct 26) ti sh pr ia lt ty kp ek ef wt wh zz po me ml sn 0 pl ct ti sh pr ia ltM tyM kpM ek ef wt wh zz po me ml sn dy th ov) := hD
  refine lv_aload_n hx hb dL_law_1444 rfl (lv_at hl 2 rfl) ?_
  refine wrVi (As := []) (rest := [.int dy]) ⟨hx, hb, hml, hown, hts⟩ (c_X7_endDay l D z q (aa 29) th (aa 30) (aa 31) (aa 32) (aa 33) (aa 34) (aa 35) (aa 36) (aa 37) (aa 38) (aa 39) (aa 40) pl ct ti sh ia pr ltM tyM zz po ml me ek ef wt wh sn kpM dy H.size) (cwV 0 hts gL_law_X7_endDay rfl rfl rfl hd_X7_endDay ⟨Nat.le_of_ble_eq_true rfl, Nat.le_of_ble_eq_true rfl⟩) hE hS hA hP hD [29, 30, 31, 32, 33, 34, 35, 36, 37, 38, 39, 40] rfl rfl rfl rfl rfl rfl rfl hl.1 rfl (Nat.le_of_ble_eq_true rfl) dL_law_1445 ⟨(by show 60 + 8 * i + 0 ≤ 601024; omega), (by show 4000 + 40 * i + 0 ≤ 7293034; omega)⟩ (fun H locs hP hD hS => ?_)
  have hP : va_P D vwCl (lawW z aa pl lo (fHalf ct 26) ti sh pr ia lt ty kp ek ef wt wh zz po me ml sn 0 pl (fHalf ct 26) ti sh pr ia ltM tyM kpM ek ef wt wh zz po me ml sn 0 0 ov) H := hP
  have hD : va_D (fun x : Nat => s.heap.size ≤ x) (lawW z aa pl lo (fHalf ct 26) ti sh pr ia lt ty kp ek ef wt wh zz po me ml sn 0 pl (fHalf ct 26) ti sh pr ia ltM tyM kpM ek ef wt wh zz po me ml sn 0 0 ov) := hD
  refine lv_icmp_eq (tgt := 1466) hx hb dL_law_1448 (by decide) (fun _ => ?_) (fun c_1 => absurd (rfl) c_1)
  exact W.widen (by omega) (by omega) (next pl lo (fHalf ct 26) ti sh pr ia lt ty kp ek ef ltM tyM kpM wt wh zz po me ml sn 0 0 ov H locs (INV_mono hI) hP hD hS ls (lv_sub hl [0, 1, 2, 3, 4] rfl))
set_option maxHeartbeats 4000000 in
set_option maxRecDepth 100000 in
theorem law_28 {p : Program} {l : Launch} {e : Env} {s : State} {m : MethodId} {below : List Frame} {meth : Method} {c : Code} {D : va_G} {z : Nat → ClassId} {q aa : Nat → Nat} {b L : Nat} {xs : Nat → Int32} {i : Nat} (G : LG p l e s m below meth c D z q b L xs) (h4 : 4 * i + 4 ≤ L) (next : LAW p l e s m below meth c D z aa b 1466 (i + 1) i) : LAW p l e s m below meth c D z aa b 1453 i i := by
  obtain ⟨hx, hb, hml, hown, hts, hX, hbl, hE, hlt, hL⟩ := G
  have hi5 : i < 512 := by omega
  have hbA : ¬ (fun x : Nat => s.heap.size ≤ x) b := Nat.not_le_of_lt hbl
  have hA : ∀ x : Nat, s.heap.size ≤ x → (fun x : Nat => s.heap.size ≤ x) x := fun _ h => h
  have hK := hE.1
  intro pl lo ct ti sh pr ia lt ty kp ek ef ltM tyM kpM wt wh zz po me ml sn dy th ov H locs hI hP hD hS ls hl
  have ⟨hB, hPR, hIO, ⟨zn, hzz, hz40, hlt9, ps, hpo, hps, hty⟩, ⟨mn, hml9, hmn⟩, ⟨sk, hsn, hsk, hkp⟩⟩ := hI
  refine lv_aload_n hx hb dL_law_1453 rfl (lv_at hl 1 rfl) ?_
  refine rdV (As := []) (rest := []) ⟨hx, hb, hml, hown, hts⟩ (c_X6_strokes l D z q (aa 0) (aa 1) (aa 6) (aa 15) (aa 17) (aa 22) (aa 25) (aa 27) dy) (cwV 0 hts gL_law_X6_strokes rfl rfl rfl hd_X6_strokes ⟨Nat.le_of_ble_eq_true rfl, Nat.le_of_ble_eq_true rfl⟩) hE hS hA hP [0] rfl rfl rfl rfl rfl hl.1 rfl (Nat.le_of_ble_eq_true rfl) dL_law_1454 ⟨(by show 60 + 8 * i + 0 ≤ 601024; omega), (by show 4000 + 40 * i + 0 ≤ 7293034; omega)⟩ ?_
  refine lv_aload_n hx hb dL_law_1457 rfl (lv_at hl 2 rfl) ?_
  refine wrVi (As := []) (rest := [.int dy]) ⟨hx, hb, hml, hown, hts⟩ (c_X7_strokes l D z q (aa 29) th (aa 30) (aa 31) (aa 32) (aa 33) (aa 34) (aa 35) (aa 36) (aa 37) (aa 38) (aa 39) (aa 40) pl ct ti sh ia pr ltM tyM zz po ml me ek ef wt wh sn kpM dy H.size) (cwV 0 hts gL_law_X7_strokes rfl rfl rfl hd_X7_strokes ⟨Nat.le_of_ble_eq_true rfl, Nat.le_of_ble_eq_true rfl⟩) hE hS hA hP hD [29, 30, 31, 32, 33, 34, 35, 36, 37, 38, 39, 40] rfl rfl rfl rfl rfl rfl rfl hl.1 rfl (Nat.le_of_ble_eq_true rfl) dL_law_1458 ⟨(by show 60 + 8 * i + 0 ≤ 601024; omega), (by show 4000 + 40 * i + 0 ≤ 7293034; omega)⟩ (fun H locs hP hD hS => ?_)
  have hP : va_P D vwCl (lawW z aa pl lo ct ti sh pr ia lt ty kp ek ef wt wh zz po me ml sn dy pl ct ti sh pr ia ltM tyM kpM ek ef wt wh zz po me ml sn dy 0 ov) H := hP
  have hD : va_D (fun x : Nat => s.heap.size ≤ x) (lawW z aa pl lo ct ti sh pr ia lt ty kp ek ef wt wh zz po me ml sn dy pl ct ti sh pr ia ltM tyM kpM ek ef wt wh zz po me ml sn dy 0 ov) := hD
  refine lv_icmp_eq (tgt := 1466) hx hb dL_law_1461 (by decide) (fun _ => ?_) (fun c_1 => absurd (rfl) c_1)
  exact W.widen (by omega) (by omega) (next pl lo ct ti sh pr ia lt ty kp ek ef ltM tyM kpM wt wh zz po me ml sn dy 0 ov H locs (INV_mono hI) hP hD hS ls (lv_sub hl [0, 1, 2, 3, 4] rfl))
