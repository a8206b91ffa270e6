/-! ===== cases 12 to 20 ===== -/
set_option maxHeartbeats 4000000 in
set_option maxRecDepth 100000 in
theorem law_12 {p : Program} {l : Launch} {e : Env} {s : State} {m : MethodId} {below : List Frame} {meth : Method} {c : Code} {D : va_G} {z : Nat → ClassId} {q aa : Nat → Nat} {b L : Nat} {xs : Nat → Int32} {i : Nat} (G : LG p l e s m below meth c D z q b L xs) (h4 : 4 * i + 4 ≤ L) (next : LAW p l e s m below meth c D z aa b 1466 (i + 1) i) : LAW p l e s m below meth c D z aa b 766 i i := by
  obtain ⟨hx, hb, hml, hown, hts, hX, hbl, hE, hlt, hL⟩ := G
  have hi5 : i < 512 := by omega
  have hbA : ¬ (fun x : Nat => s.heap.size ≤ x) b := Nat.not_le_of_lt hbl
  have hA : ∀ x : Nat, s.heap.size ≤ x → (fun x : Nat => s.heap.size ≤ x) x := fun _ h => h
  have hK := hE.1
  intro pl lo ct ti sh pr ia lt ty kp ek ef ltM tyM kpM wt wh zz po me ml sn dy th ov H locs hI hP hD hS ls hl
  have ⟨hB, hPR, hIO, ⟨zn, hzz, hz40, hlt9, ps, hpo, hps, hty⟩, ⟨mn, hml9, hmn⟩, ⟨sk, hsn, hsk, hkp⟩⟩ := hI
  refine lv_aload_n hx hb dL_law_766 rfl (lv_at hl 1 rfl) ?_
  refine rdV (As := []) (rest := []) ⟨hx, hb, hml, hown, hts⟩ (c_X6_mended l D z q (aa 0) (aa 1) (aa 6) (aa 15) (aa 17) (aa 22) (aa 25) (aa 27) dy (aa 18) (aa 19) (aa 20) (aa 21) lt ty zz po me ml) (cwV 0 hts gL_law_X6_mended rfl rfl rfl hd_X6_mended ⟨Nat.le_of_ble_eq_true rfl, Nat.le_of_ble_eq_true rfl⟩) hE hS hA hP [0, 17, 18, 19, 20, 21] rfl rfl rfl rfl rfl hl.1 rfl (Nat.le_of_ble_eq_true rfl) dL_law_767 ⟨(by show 60 + 8 * i + 0 ≤ 601024; omega), (by show 4000 + 40 * i + 0 ≤ 7293034; omega)⟩ ?_
  refine lv_aload_n hx hb dL_law_770 rfl (lv_at hl 2 rfl) ?_
  refine wrVi (As := []) (rest := [.int me]) ⟨hx, hb, hml, hown, hts⟩ (c_X7_mended l D z q (aa 29) th (aa 30) (aa 31) (aa 32) (aa 33) (aa 34) (aa 35) (aa 36) (aa 37) (aa 38) (aa 39) (aa 40) pl ct ti sh ia pr ltM tyM zz po ml me ek ef wt wh sn kpM dy H.size) (cwV 0 hts gL_law_X7_mended rfl rfl rfl hd_X7_mended ⟨Nat.le_of_ble_eq_true rfl, Nat.le_of_ble_eq_true rfl⟩) hE hS hA hP hD [29, 30, 31, 32, 33, 34, 35, 36, 37, 38, 39, 40] rfl rfl rfl rfl rfl rfl rfl hl.1 rfl (Nat.le_of_ble_eq_true rfl) dL_law_771 ⟨(by show 60 + 8 * i + 0 ≤ 601024; omega), (by show 4000 + 40 * i + 0 ≤ 7293034; omega)⟩ (fun H locs hP hD hS => ?_)
  have hP : va_P D vwCl (lawW z aa pl lo ct ti sh pr ia lt ty kp ek ef wt wh zz po me ml sn dy pl ct ti sh pr ia ltM tyM kpM ek ef wt wh zz po me ml sn dy 0 ov) H := hP
  have hD : va_D (fun x : Nat => s.heap.size ≤ x) (lawW z aa pl lo ct ti sh pr ia lt ty kp ek ef wt wh zz po me ml sn dy pl ct ti sh pr ia ltM tyM kpM ek ef wt wh zz po me ml sn dy 0 ov) := hD
  refine lv_icmp_eq (tgt := 1466) hx hb dL_law_774 (by decide) (fun _ => ?_) (fun c_1 => absurd (rfl) c_1)
  exact W.widen (by omega) (by omega) (next pl lo ct ti sh pr ia lt ty kp ek ef ltM tyM kpM wt wh zz po me ml sn dy 0 ov H locs (INV_mono hI) hP hD hS ls (lv_sub hl [0, 1, 2, 3, 4] rfl))
set_option maxHeartbeats 4000000 in
set_option maxRecDepth 100000 in
theorem law_13 {p : Program} {l : Launch} {e : Env} {s : State} {m : MethodId} {below : List Frame} {meth : Method} {c : Code} {D : va_G} {z : Nat → ClassId} {q aa : Nat → Nat} {b L : Nat} {xs : Nat → Int32} {i : Nat} (G : LG p l e s m below meth c D z q b L xs) (h4 : 4 * i + 4 ≤ L) (next : LAW p l e s m below meth c D z aa b 1466 (i + 1) i) : LAW p l e s m below meth c D z aa b 779 i i := by
  obtain ⟨hx, hb, hml, hown, hts, hX, hbl, hE, hlt, hL⟩ := G
  have hi5 : i < 512 := by omega
  have hbA : ¬ (fun x : Nat => s.heap.size ≤ x) b := Nat.not_le_of_lt hbl
  have hA : ∀ x : Nat, s.heap.size ≤ x → (fun x : Nat => s.heap.size ≤ x) x := fun _ h => h
  have hK := hE.1
  intro pl lo ct ti sh pr ia lt ty kp ek ef ltM tyM kpM wt wh zz po me ml sn dy th ov H locs hI hP hD hS ls hl
  have ⟨hB, hPR, hIO, ⟨zn, hzz, hz40, hlt9, ps, hpo, hps, hty⟩, ⟨mn, hml9, hmn⟩, ⟨sk, hsn, hsk, hkp⟩⟩ := hI
  by_cases e0 : ¬ pFull sn = 0
  · refine lv_aload_n hx hb dL_law_779 rfl (lv_at hl 1 rfl) ?_
    refine lv_aload_n hx hb dL_law_780 rfl (lv_at hl 3 rfl) ?_
    refine hwS (As := [.ref (aa 0), .ref (aa 41)]) (rest := []) ⟨hx, hb, hml, hown, hts⟩ (c_L_end_0 l D z q (aa 0) (aa 1) (aa 6) (aa 15) (aa 17) (aa 22) (aa 25) (aa 27) dy (aa 16) ia (aa 7) (aa 8) (aa 9) (aa 10) (aa 11) (aa 12) (aa 13) (aa 14) ct ti sh pr wt wh (aa 18) (aa 19) (aa 20) (aa 21) lt ty zz po me ml (aa 23) (aa 24) kp sn ps (aa 41) ov H.size hpo (by omega) e0 hlt) (vx_cwSW 2 hts gL_law_L_end rfl rfl rfl hd_L_end.2 ⟨Nat.le_of_ble_eq_true rfl, Nat.le_of_ble_eq_true rfl⟩) hE hS hA hP hD [0, 15, 16, 6, 7, 8, 9, 10, 11, 12, 13, 14, 17, 18, 19, 20, 21, 22, 23, 24, 41] rfl rfl rfl rfl hl.1 rfl (Nat.le_of_ble_eq_true rfl) dL_law_781 ⟨(by show 60 + 8 * i + 3 ≤ 601024; omega), (by show 4000 + 40 * i + 18 ≤ 7293034; omega)⟩ (fun H locs hP hD hS => ?_)
    have hP : va_P D vwCl (lawW z aa pl lo ct ti sh pr ia lt ty kp ek ef wt wh zz po me ml sn dy pl ct ti sh pr ia ltM tyM kpM ek ef wt wh zz po me ml sn dy th ov) H := hP
    have hD : va_D (fun x : Nat => s.heap.size ≤ x) (lawW z aa pl lo ct ti sh pr ia lt ty kp ek ef wt wh zz po me ml sn dy pl ct ti sh pr ia ltM tyM kpM ek ef wt wh zz po me ml sn dy th ov) := hD
    refine lv_istore (lv' := [(5, .int 1), (0, .ref b), (1, .ref (aa 0)), (2, .ref (aa 29)), (3, .ref (aa 41)), (4, .int (nI (4 * i)))]) hx hb dL_law_784 hl (by decide) rfl (fun ls hl => ?_)
    refine lv_aload_n hx hb dL_law_786 rfl (lv_at hl 3 rfl) ?_
    refine wrVi (As := []) (rest := []) ⟨hx, hb, hml, hown, hts⟩ (c_X7_end_b0 l D z q (aa 29) th (aa 30) (aa 31) (aa 32) (aa 33) (aa 34) (aa 35) (aa 36) (aa 37) (aa 38) (aa 39) (aa 40) pl ct ti sh ia pr ltM tyM zz po ml me ek ef wt wh sn kpM dy H.size ((pfull_iff hsn hsk).mp e0)) (cwV 0 hts gL_law_X7_end rfl rfl rfl hd_X7_end ⟨Nat.le_of_ble_eq_true rfl, Nat.le_of_ble_eq_true rfl⟩) hE hS hA hP hD [29, 30, 31, 32, 33, 34, 35, 36, 37, 38, 39, 40] rfl rfl rfl rfl rfl rfl rfl hl.1 rfl (Nat.le_of_ble_eq_true rfl) dL_law_787 ⟨(by show 60 + 8 * i + 3 + 0 ≤ 601024; omega), (by show 4000 + 40 * i + 18 + 0 ≤ 7293034; omega)⟩ (fun H locs hP hD hS => ?_)
    have hP : va_P D vwCl (lawW z aa pl lo ct ti sh pr ia lt ty kp ek ef wt wh zz po me ml sn dy pl ct ti sh pr ia ltM tyM kpM ek ef wt wh zz po me ml sn dy 1 ov) H := hP
    have hD : va_D (fun x : Nat => s.heap.size ≤ x) (lawW z aa pl lo ct ti sh pr ia lt ty kp ek ef wt wh zz po me ml sn dy pl ct ti sh pr ia ltM tyM kpM ek ef wt wh zz po me ml sn dy 1 ov) := hD
    refine lv_istore (lv' := [(6, .int 0), (5, .int 1), (0, .ref b), (1, .ref (aa 0)), (2, .ref (aa 29)), (3, .ref (aa 41)), (4, .int (nI (4 * i)))]) hx hb dL_law_790 hl (by decide) rfl (fun ls hl => ?_)
    refine lv_aload_n hx hb dL_law_792 rfl (lv_at hl 4 rfl) ?_
    refine rdV (As := []) (rest := []) ⟨hx, hb, hml, hown, hts⟩ (c_X7_thrown l D z q (aa 29) 1 (aa 30) (aa 31) (aa 32) (aa 33) (aa 34) (aa 35) (aa 36) (aa 37) (aa 38) (aa 39) (aa 40) pl ct ti sh ia pr ltM tyM zz po ml me ek ef wt wh sn kpM dy) (cwV 0 hts gL_law_X7_thrown rfl rfl rfl hd_X7_thrown ⟨Nat.le_of_ble_eq_true rfl, Nat.le_of_ble_eq_true rfl⟩) hE hS hA hP [29, 30, 31, 32, 33, 34, 35, 36, 37, 38, 39, 40] rfl rfl rfl rfl rfl hl.1 rfl (Nat.le_of_ble_eq_true rfl) dL_law_793 ⟨(by show 60 + 8 * i + 3 + 0 ≤ 601024; omega), (by show 4000 + 40 * i + 18 + 0 ≤ 7293034; omega)⟩ ?_
    refine lv_iload hx hb dL_law_796 (lv_at hl 1 rfl) ?_
    refine lv_icmp_eq (tgt := 803) hx hb dL_law_798 (by decide) (fun _ => ?_) (fun c_1 => absurd (by decide) c_1)
    refine lv_iload hx hb dL_law_803 (lv_at hl 1 rfl) ?_
    refine lv_if_ne (tgt := 820) hx hb dL_law_805 (by decide) (fun _ => ?_) (fun c_2 => absurd c_2 (by decide))
    refine lv_goto (tgt := 1466) hx hb dL_law_820 (by decide) ?_
    exact W.widen (by omega) (by omega) (next pl lo ct ti sh pr ia lt ty kp ek ef ltM tyM kpM wt wh zz po me ml sn dy 1 ov H locs (INV_mono hI) hP hD hS ls (lv_sub hl [2, 3, 4, 5, 6] rfl))
  · have hw9 := INV_end hI ct ti sh wt wh (tSpeed lt ty ps ml) (fun h9 => e0 ((pfull_iff hsn hsk).mpr h9))
    refine lv_aload_n hx hb dL_law_779 rfl (lv_at hl 1 rfl) ?_
    refine lv_aload_n hx hb dL_law_780 rfl (lv_at hl 3 rfl) ?_
    refine hwS (As := [.ref (aa 0), .ref (aa 41)]) (rest := []) ⟨hx, hb, hml, hown, hts⟩ (c_L_end_1 l D z q (aa 0) (aa 1) (aa 6) (aa 15) (aa 17) (aa 22) (aa 25) (aa 27) dy (aa 16) ia (aa 7) (aa 8) (aa 9) (aa 10) (aa 11) (aa 12) (aa 13) (aa 14) ct ti sh pr wt wh (aa 18) (aa 19) (aa 20) (aa 21) lt ty zz po me ml (aa 23) (aa 24) kp sn ps (aa 41) ov H.size hpo (by omega) e0 hlt) (vx_cwSW 2 hts gL_law_L_end rfl rfl rfl hd_L_end.2 ⟨Nat.le_of_ble_eq_true rfl, Nat.le_of_ble_eq_true rfl⟩) hE hS hA hP hD [0, 15, 16, 6, 7, 8, 9, 10, 11, 12, 13, 14, 17, 18, 19, 20, 21, 22, 23, 24, 41] rfl rfl rfl rfl hl.1 rfl (Nat.le_of_ble_eq_true rfl) dL_law_781 ⟨(by show 60 + 8 * i + 3 ≤ 601024; omega), (by show 4000 + 40 * i + 18 ≤ 7293034; omega)⟩ (fun H locs hP hD hS => ?_)
    have hP : va_P D vwCl (lawW z aa pl lo (lM1 ia ct sh ct 0) (lM1 ia ct sh ti 400) (lM1 ia ct sh sh 0) pr (lRevI ia ct ti sh wt wh) lt ty (cSet 100 kp sn (tSpeed lt ty ps ml)) ek ef wt wh 0 0 0 0 (sn + 1) dy pl ct ti sh pr ia ltM tyM kpM ek ef wt wh zz po me ml sn dy th (vp_updL ov (0 : Int32).toNatClampNeg (lRevV ia ct ti sh wt wh).toInt64)) H := hP
    have hD : va_D (fun x : Nat => s.heap.size ≤ x) (lawW z aa pl lo (lM1 ia ct sh ct 0) (lM1 ia ct sh ti 400) (lM1 ia ct sh sh 0) pr (lRevI ia ct ti sh wt wh) lt ty (cSet 100 kp sn (tSpeed lt ty ps ml)) ek ef wt wh 0 0 0 0 (sn + 1) dy pl ct ti sh pr ia ltM tyM kpM ek ef wt wh zz po me ml sn dy th (vp_updL ov (0 : Int32).toNatClampNeg (lRevV ia ct ti sh wt wh).toInt64)) := hD
    refine lv_istore (lv' := [(5, .int 0), (0, .ref b), (1, .ref (aa 0)), (2, .ref (aa 29)), (3, .ref (aa 41)), (4, .int (nI (4 * i)))]) hx hb dL_law_784 hl (by decide) rfl (fun ls hl => ?_)
    refine lv_aload_n hx hb dL_law_786 rfl (lv_at hl 3 rfl) ?_
    refine wrVi (As := []) (rest := []) ⟨hx, hb, hml, hown, hts⟩ (c_X7_end_ok l D z q (aa 29) th (aa 30) (aa 31) (aa 32) (aa 33) (aa 34) (aa 35) (aa 36) (aa 37) (aa 38) (aa 39) (aa 40) pl ct ti sh ia pr ltM tyM zz po ml me ek ef wt wh sn kpM dy ps H.size (fun h9 => e0 ((pfull_iff hsn hsk).mpr h9)) hpo (by omega) hw9.1) (cwV 0 hts gL_law_X7_end rfl rfl rfl hd_X7_end ⟨Nat.le_of_ble_eq_true rfl, Nat.le_of_ble_eq_true rfl⟩) hE hS hA hP hD [29, 30, 31, 32, 33, 34, 35, 36, 37, 38, 39, 40] rfl rfl rfl rfl rfl rfl rfl hl.1 rfl (Nat.le_of_ble_eq_true rfl) dL_law_787 ⟨(by show 60 + 8 * i + 3 + 0 ≤ 601024; omega), (by show 4000 + 40 * i + 18 + 0 ≤ 7293034; omega)⟩ (fun H locs hP hD hS => ?_)
    have hP : va_P D vwCl (lawW z aa pl lo (lM1 ia ct sh ct 0) (lM1 ia ct sh ti 400) (lM1 ia ct sh sh 0) pr (lRevI ia ct ti sh wt wh) lt ty (cSet 100 kp sn (tSpeed lt ty ps ml)) ek ef wt wh 0 0 0 0 (sn + 1) dy pl (lM1 ia ct sh ct 0) (lM1 ia ct sh ti 400) (lM1 ia ct sh sh 0) pr (mRevI ia ct ti sh wt wh) ltM tyM (cSet 100 kpM sn (mSpeed ltM tyM ps ml)) ek ef wt wh 0 0 0 0 (sn + 1) dy 0 (vp_updL ov (0 : Int32).toNatClampNeg (lRevV ia ct ti sh wt wh).toInt64)) H := hP
    have hD : va_D (fun x : Nat => s.heap.size ≤ x) (lawW z aa pl lo (lM1 ia ct sh ct 0) (lM1 ia ct sh ti 400) (lM1 ia ct sh sh 0) pr (lRevI ia ct ti sh wt wh) lt ty (cSet 100 kp sn (tSpeed lt ty ps ml)) ek ef wt wh 0 0 0 0 (sn + 1) dy pl (lM1 ia ct sh ct 0) (lM1 ia ct sh ti 400) (lM1 ia ct sh sh 0) pr (mRevI ia ct ti sh wt wh) ltM tyM (cSet 100 kpM sn (mSpeed ltM tyM ps ml)) ek ef wt wh 0 0 0 0 (sn + 1) dy 0 (vp_updL ov (0 : Int32).toNatClampNeg (lRevV ia ct ti sh wt wh).toInt64)) := hD
    refine lv_istore (lv' := [(6, .int (mRevV ia ct ti sh wt wh)), (5, .int 0), (0, .ref b), (1, .ref (aa 0)), (2, .ref (aa 29)), (3, .ref (aa 41)), (4, .int (nI (4 * i)))]) hx hb dL_law_790 hl (by decide) rfl (fun ls hl => ?_)
    refine lv_aload_n hx hb dL_law_792 rfl (lv_at hl 4 rfl) ?_
    refine rdV (As := []) (rest := []) ⟨hx, hb, hml, hown, hts⟩ (c_X7_thrown l D z q (aa 29) 0 (aa 30) (aa 31) (aa 32) (aa 33) (aa 34) (aa 35) (aa 36) (aa 37) (aa 38) (aa 39) (aa 40) pl (lM1 ia ct sh ct 0) (lM1 ia ct sh ti 400) (lM1 ia ct sh sh 0) (mRevI ia ct ti sh wt wh) pr ltM tyM 0 0 0 0 ek ef wt wh (sn + 1) (cSet 100 kpM sn (mSpeed ltM tyM ps ml)) dy) (cwV 0 hts gL_law_X7_thrown rfl rfl rfl hd_X7_thrown ⟨Nat.le_of_ble_eq_true rfl, Nat.le_of_ble_eq_true rfl⟩) hE hS hA hP [29, 30, 31, 32, 33, 34, 35, 36, 37, 38, 39, 40] rfl rfl rfl rfl rfl hl.1 rfl (Nat.le_of_ble_eq_true rfl) dL_law_793 ⟨(by show 60 + 8 * i + 3 + 0 ≤ 601024; omega), (by show 4000 + 40 * i + 18 + 0 ≤ 7293034; omega)⟩ ?_
    refine lv_iload hx hb dL_law_796 (lv_at hl 1 rfl) ?_
    refine lv_icmp_eq (tgt := 803) hx hb dL_law_798 (by decide) (fun _ => ?_) (fun c_1 => absurd (by decide) c_1)
    refine lv_iload hx hb dL_law_803 (lv_at hl 1 rfl) ?_
    refine lv_if_ne (tgt := 820) hx hb dL_law_805 (by decide) (fun c_2 => absurd (by decide) c_2) (fun _ => ?_)
    refine lv_aload_n hx hb dL_law_808 rfl (lv_at hl 5 rfl) ?_
    refine lv_iconst (v := 0) hx hb dL_law_809 (by decide) ?_
    refine va_lald hx hb hK hP 41 2 rfl rfl in0 dL_law_810 ?_
    refine lv_iload hx hb dL_law_811 (lv_at hl 0 rfl) ?_
    refine lv_i2l (v := (mRevV ia ct ti sh wt wh).toInt64) hx hb dL_law_813 rfl ?_
    refine W.lcmp hx hb dL_law_814 ?_
    refine lv_if_eq (tgt := 820) hx hb dL_law_815 (by decide) (fun _ => ?_) (fun c_3 => absurd (lgu (congrArg Int32.toInt64 ((rev_rel ia ct ti sh wt wh).1.symm))) c_3)
    refine lv_goto (tgt := 1466) hx hb dL_law_820 (by decide) ?_
    rw [(rev_rel ia ct ti sh wt wh).2, speed_rel hI (by omega) hpo (by omega)] at hP hD
    exact W.widen (by omega) (by omega) (next pl lo (lM1 ia ct sh ct 0) (lM1 ia ct sh ti 400) (lM1 ia ct sh sh 0) pr (lRevI ia ct ti sh wt wh) lt ty (cSet 100 kp sn (tSpeed lt ty ps ml)) ek ef ltM tyM (cSet 100 kpM sn (tSpeed lt ty ps ml)) wt wh 0 0 0 0 (sn + 1) dy 0 (vp_updL ov (0 : Int32).toNatClampNeg (lRevV ia ct ti sh wt wh).toInt64) H locs (hw9.2) hP hD hS ls (lv_sub hl [2, 3, 4, 5, 6] rfl))
set_option maxHeartbeats 4000000 in
set_option maxRecDepth 100000 in
theorem law_14 {p : Program} {l : Launch} {e : Env} {s : State} {m : MethodId} {below : List Frame} {meth : Method} {c : Code} {D : va_G} {z : Nat → ClassId} {q aa : Nat → Nat} {b L : Nat} {xs : Nat → Int32} {i : Nat} (G : LG p l e s m below meth c D z q b L xs) (h4 : 4 * i + 4 ≤ L) (next : LAW p l e s m below meth c D z aa b 1466 (i + 1) i) : LAW p l e s m below meth c D z aa b 823 i i := by
  obtain ⟨hx, hb, hml, hown, hts, hX, hbl, hE, hlt, hL⟩ := G
  have hi5 : i < 512 := by omega
  have hbA : ¬ (fun x : Nat => s.heap.size ≤ x) b := Nat.not_le_of_lt hbl
  have hA : ∀ x : Nat, s.heap.size ≤ x → (fun x : Nat => s.heap.size ≤ x) x := fun _ h => h
  have hK := hE.1
  intro pl lo ct ti sh pr ia lt ty kp ek ef ltM tyM kpM wt wh zz po me ml sn dy th ov H locs hI hP hD hS ls hl
  have ⟨hB, hPR, hIO, ⟨zn, hzz, hz40, hlt9, ps, hpo, hps, hty⟩, ⟨mn, hml9, hmn⟩, ⟨sk, hsn, hsk, hkp⟩⟩ := hI
  obtain ⟨v1, hv1⟩ : ∃ v, v = xs (nI (4 * i) + 1).toNatClampNeg := ⟨_, rfl⟩
  by_cases e0 : bW v1 0 25 = 0
  · refine lv_aload_n hx hb dL_law_823 rfl (lv_at hl 1 rfl) ?_
    refine lv_aload_n hx hb dL_law_824 rfl (lv_at hl 0 rfl) ?_
    refine lv_iload hx hb dL_law_825 (lv_at hl 4 rfl) ?_
    refine lv_iconst (v := 1) hx hb dL_law_827 (by decide) ?_
    refine lv_iadd hx hb dL_law_828 ?_
    refine mSld hx hb hX hbl hbA hS (show vp_in (nI (4 * i) + 1) L from in4 (k := 1) (by omega) hL) hv1 dL_law_829 ?_
    refine lv_aload_n hx hb dL_law_830 rfl (lv_at hl 3 rfl) ?_
    refine hwS (As := [.ref (aa 0), .int v1, .ref (aa 41)]) (rest := []) ⟨hx, hb, hml, hown, hts⟩ (c_L_count_0 l D z q (aa 0) (aa 1) (aa 6) (aa 15) (aa 17) (aa 22) (aa 25) (aa 27) dy (aa 7) (aa 8) (aa 9) (aa 10) (aa 11) (aa 12) (aa 13) (aa 14) ct ti sh pr wt wh v1 (aa 41) ov H.size e0 hlt) (vx_cwSW 3 hts gL_law_L_count rfl rfl rfl hd_L_count.2 ⟨Nat.le_of_ble_eq_true rfl, Nat.le_of_ble_eq_true rfl⟩) hE hS hA hP hD [0, 6, 7, 8, 9, 10, 11, 12, 13, 14, 41] rfl rfl rfl rfl hl.1 rfl (Nat.le_of_ble_eq_true rfl) dL_law_831 ⟨(by show 60 + 8 * i + 3 ≤ 601024; omega), (by show 4000 + 40 * i + 18 ≤ 7293034; omega)⟩ (fun H locs hP hD hS => ?_)
    have hP : va_P D vwCl (lawW z aa pl lo ct ti sh pr ia lt ty kp ek ef wt wh zz po me ml sn dy pl ct ti sh pr ia ltM tyM kpM ek ef wt wh zz po me ml sn dy th ov) H := hP
    have hD : va_D (fun x : Nat => s.heap.size ≤ x) (lawW z aa pl lo ct ti sh pr ia lt ty kp ek ef wt wh zz po me ml sn dy pl ct ti sh pr ia ltM tyM kpM ek ef wt wh zz po me ml sn dy th ov) := hD
    refine lv_istore (lv' := [(5, .int 1), (0, .ref b), (1, .ref (aa 0)), (2, .ref (aa 29)), (3, .ref (aa 41)), (4, .int (nI (4 * i)))]) hx hb dL_law_834 hl (by decide) rfl (fun ls hl => ?_)
    refine lv_aload_n hx hb dL_law_836 rfl (lv_at hl 3 rfl) ?_
    refine lv_aload_n hx hb dL_law_837 rfl (lv_at hl 1 rfl) ?_
    refine lv_iload hx hb dL_law_838 (lv_at hl 5 rfl) ?_
    refine lv_iconst (v := 1) hx hb dL_law_840 (by decide) ?_
    refine lv_iadd hx hb dL_law_841 ?_
    refine mSld hx hb hX hbl hbA hS (show vp_in (nI (4 * i) + 1) L from in4 (k := 1) (by omega) hL) hv1 dL_law_842 ?_
    refine wrVi (As := [.int v1]) (rest := []) ⟨hx, hb, hml, hown, hts⟩ (c_X7_count_b0 l D z q (aa 29) th (aa 30) (aa 31) (aa 32) (aa 33) (aa 34) (aa 35) (aa 36) (aa 37) (aa 38) (aa 39) (aa 40) pl ct ti sh ia pr ltM tyM zz po ml me ek ef wt wh sn kpM dy v1 H.size e0) (cwV 1 hts gL_law_X7_count rfl rfl rfl hd_X7_count ⟨Nat.le_of_ble_eq_true rfl, Nat.le_of_ble_eq_true rfl⟩) hE hS hA hP hD [29, 30, 31, 32, 33, 34, 35, 36, 37, 38, 39, 40] rfl rfl rfl rfl rfl rfl rfl hl.1 rfl (Nat.le_of_ble_eq_true rfl) dL_law_843 ⟨(by show 60 + 8 * i + 3 + 0 ≤ 601024; omega), (by show 4000 + 40 * i + 18 + 0 ≤ 7293034; omega)⟩ (fun H locs hP hD hS => ?_)
    have hP : va_P D vwCl (lawW z aa pl lo ct ti sh pr ia lt ty kp ek ef wt wh zz po me ml sn dy pl ct ti sh pr ia ltM tyM kpM ek ef wt wh zz po me ml sn dy 1 ov) H := hP
    have hD : va_D (fun x : Nat => s.heap.size ≤ x) (lawW z aa pl lo ct ti sh pr ia lt ty kp ek ef wt wh zz po me ml sn dy pl ct ti sh pr ia ltM tyM kpM ek ef wt wh zz po me ml sn dy 1 ov) := hD
    refine lv_istore (lv' := [(6, .int 0), (5, .int 1), (0, .ref b), (1, .ref (aa 0)), (2, .ref (aa 29)), (3, .ref (aa 41)), (4, .int (nI (4 * i)))]) hx hb dL_law_846 hl (by decide) rfl (fun ls hl => ?_)
    refine lv_aload_n hx hb dL_law_848 rfl (lv_at hl 4 rfl) ?_
    refine rdV (As := []) (rest := []) ⟨hx, hb, hml, hown, hts⟩ (c_X7_thrown l D z q (aa 29) 1 (aa 30) (aa 31) (aa 32) (aa 33) (aa 34) (aa 35) (aa 36) (aa 37) (aa 38) (aa 39) (aa 40) pl ct ti sh ia pr ltM tyM zz po ml me ek ef wt wh sn kpM dy) (cwV 0 hts gL_law_X7_thrown rfl rfl rfl hd_X7_thrown ⟨Nat.le_of_ble_eq_true rfl, Nat.le_of_ble_eq_true rfl⟩) hE hS hA hP [29, 30, 31, 32, 33, 34, 35, 36, 37, 38, 39, 40] rfl rfl rfl rfl rfl hl.1 rfl (Nat.le_of_ble_eq_true rfl) dL_law_849 ⟨(by show 60 + 8 * i + 3 + 0 ≤ 601024; omega), (by show 4000 + 40 * i + 18 + 0 ≤ 7293034; omega)⟩ ?_
    refine lv_iload hx hb dL_law_852 (lv_at hl 1 rfl) ?_
    refine lv_icmp_eq (tgt := 859) hx hb dL_law_854 (by decide) (fun _ => ?_) (fun c_1 => absurd (by decide) c_1)
    refine lv_iload hx hb dL_law_859 (lv_at hl 1 rfl) ?_
    refine lv_if_ne (tgt := 876) hx hb dL_law_861 (by decide) (fun _ => ?_) (fun c_2 => absurd c_2 (by decide))
    refine lv_goto (tgt := 1466) hx hb dL_law_876 (by decide) ?_
    exact W.widen (by omega) (by omega) (next pl lo ct ti sh pr ia lt ty kp ek ef ltM tyM kpM wt wh zz po me ml sn dy 1 ov H locs (INV_mono hI) hP hD hS ls (lv_sub hl [2, 3, 4, 5, 6] rfl))
  · refine lv_aload_n hx hb dL_law_823 rfl (lv_at hl 1 rfl) ?_
    refine lv_aload_n hx hb dL_law_824 rfl (lv_at hl 0 rfl) ?_
    refine lv_iload hx hb dL_law_825 (lv_at hl 4 rfl) ?_
    refine lv_iconst (v := 1) hx hb dL_law_827 (by decide) ?_
    refine lv_iadd hx hb dL_law_828 ?_
    refine mSld hx hb hX hbl hbA hS (show vp_in (nI (4 * i) + 1) L from in4 (k := 1) (by omega) hL) hv1 dL_law_829 ?_
    refine lv_aload_n hx hb dL_law_830 rfl (lv_at hl 3 rfl) ?_
    refine hwS (As := [.ref (aa 0), .int v1, .ref (aa 41)]) (rest := []) ⟨hx, hb, hml, hown, hts⟩ (c_L_count_1 l D z q (aa 0) (aa 1) (aa 6) (aa 15) (aa 17) (aa 22) (aa 25) (aa 27) dy (aa 7) (aa 8) (aa 9) (aa 10) (aa 11) (aa 12) (aa 13) (aa 14) ct ti sh pr wt wh v1 (aa 41) ov H.size e0 hlt) (vx_cwSW 3 hts gL_law_L_count rfl rfl rfl hd_L_count.2 ⟨Nat.le_of_ble_eq_true rfl, Nat.le_of_ble_eq_true rfl⟩) hE hS hA hP hD [0, 6, 7, 8, 9, 10, 11, 12, 13, 14, 41] rfl rfl rfl rfl hl.1 rfl (Nat.le_of_ble_eq_true rfl) dL_law_831 ⟨(by show 60 + 8 * i + 3 ≤ 601024; omega), (by show 4000 + 40 * i + 18 ≤ 7293034; omega)⟩ (fun H locs hP hD hS => ?_)
    have hP : va_P D vwCl (lawW z aa pl lo ct ti sh pr ia lt ty kp ek ef wt wh zz po me ml sn dy pl ct ti sh pr ia ltM tyM kpM ek ef wt wh zz po me ml sn dy th (vp_updL ov (0 : Int32).toNatClampNeg (cAt 26 ct v1).toInt64)) H := hP
    have hD : va_D (fun x : Nat => s.heap.size ≤ x) (lawW z aa pl lo ct ti sh pr ia lt ty kp ek ef wt wh zz po me ml sn dy pl ct ti sh pr ia ltM tyM kpM ek ef wt wh zz po me ml sn dy th (vp_updL ov (0 : Int32).toNatClampNeg (cAt 26 ct v1).toInt64)) := hD
    refine lv_istore (lv' := [(5, .int 0), (0, .ref b), (1, .ref (aa 0)), (2, .ref (aa 29)), (3, .ref (aa 41)), (4, .int (nI (4 * i)))]) hx hb dL_law_834 hl (by decide) rfl (fun ls hl => ?_)
    refine lv_aload_n hx hb dL_law_836 rfl (lv_at hl 3 rfl) ?_
    refine lv_aload_n hx hb dL_law_837 rfl (lv_at hl 1 rfl) ?_
    refine lv_iload hx hb dL_law_838 (lv_at hl 5 rfl) ?_
    refine lv_iconst (v := 1) hx hb dL_law_840 (by decide) ?_
    refine lv_iadd hx hb dL_law_841 ?_
    refine mSld hx hb hX hbl hbA hS (show vp_in (nI (4 * i) + 1) L from in4 (k := 1) (by omega) hL) hv1 dL_law_842 ?_
    refine wrVi (As := [.int v1]) (rest := []) ⟨hx, hb, hml, hown, hts⟩ (c_X7_count_ok l D z q (aa 29) th (aa 30) (aa 31) (aa 32) (aa 33) (aa 34) (aa 35) (aa 36) (aa 37) (aa 38) (aa 39) (aa 40) pl ct ti sh ia pr ltM tyM zz po ml me ek ef wt wh sn kpM dy v1 H.size e0) (cwV 1 hts gL_law_X7_count rfl rfl rfl hd_X7_count ⟨Nat.le_of_ble_eq_true rfl, Nat.le_of_ble_eq_true rfl⟩) hE hS hA hP hD [29, 30, 31, 32, 33, 34, 35, 36, 37, 38, 39, 40] rfl rfl rfl rfl rfl rfl rfl hl.1 rfl (Nat.le_of_ble_eq_true rfl) dL_law_843 ⟨(by show 60 + 8 * i + 3 + 0 ≤ 601024; omega), (by show 4000 + 40 * i + 18 + 0 ≤ 7293034; omega)⟩ (fun H locs hP hD hS => ?_)
    have hP : va_P D vwCl (lawW z aa pl lo ct ti sh pr ia lt ty kp ek ef wt wh zz po me ml sn dy pl ct ti sh pr ia ltM tyM kpM ek ef wt wh zz po me ml sn dy 0 (vp_updL ov (0 : Int32).toNatClampNeg (cAt 26 ct v1).toInt64)) H := hP
    have hD : va_D (fun x : Nat => s.heap.size ≤ x) (lawW z aa pl lo ct ti sh pr ia lt ty kp ek ef wt wh zz po me ml sn dy pl ct ti sh pr ia ltM tyM kpM ek ef wt wh zz po me ml sn dy 0 (vp_updL ov (0 : Int32).toNatClampNeg (cAt 26 ct v1).toInt64)) := hD
    refine lv_istore (lv' := [(6, .int (cAt 26 ct v1)), (5, .int 0), (0, .ref b), (1, .ref (aa 0)), (2, .ref (aa 29)), (3, .ref (aa 41)), (4, .int (nI (4 * i)))]) hx hb dL_law_846 hl (by decide) rfl (fun ls hl => ?_)
    refine lv_aload_n hx hb dL_law_848 rfl (lv_at hl 4 rfl) ?_
    refine rdV (As := []) (rest := []) ⟨hx, hb, hml, hown, hts⟩ (c_X7_thrown l D z q (aa 29) 0 (aa 30) (aa 31) (aa 32) (aa 33) (aa 34) (aa 35) (aa 36) (aa 37) (aa 38) (aa 39) (aa 40) pl ct ti sh ia pr ltM tyM zz po ml me ek ef wt wh sn kpM dy) (cwV 0 hts gL_law_X7_thrown rfl rfl rfl hd_X7_thrown ⟨Nat.le_of_ble_eq_true rfl, Nat.le_of_ble_eq_true rfl⟩) hE hS hA hP [29, 30, 31, 32, 33, 34, 35, 36, 37, 38, 39, 40] rfl rfl rfl rfl rfl hl.1 rfl (Nat.le_of_ble_eq_true rfl) dL_law_849 ⟨(by show 60 + 8 * i + 3 + 0 ≤ 601024; omega), (by show 4000 + 40 * i + 18 + 0 ≤ 7293034; omega)⟩ ?_
    refine lv_iload hx hb dL_law_852 (lv_at hl 1 rfl) ?_
    refine lv_icmp_eq (tgt := 859) hx hb dL_law_854 (by decide) (fun _ => ?_) (fun c_1 => absurd (by decide) c_1)
    refine lv_iload hx hb dL_law_859 (lv_at hl 1 rfl) ?_
    refine lv_if_ne (tgt := 876) hx hb dL_law_861 (by decide) (fun c_2 => absurd (by decide) c_2) (fun _ => ?_)
    refine lv_aload_n hx hb dL_law_864 rfl (lv_at hl 5 rfl) ?_
    refine lv_iconst (v := 0) hx hb dL_law_865 (by decide) ?_
    refine va_lald hx hb hK hP 41 2 rfl rfl in0 dL_law_866 ?_
    refine lv_iload hx hb dL_law_867 (lv_at hl 0 rfl) ?_
    refine lv_i2l (v := (cAt 26 ct v1).toInt64) hx hb dL_law_869 rfl ?_
    refine W.lcmp hx hb dL_law_870 ?_
    refine lv_if_eq (tgt := 876) hx hb dL_law_871 (by decide) (fun _ => ?_) (fun c_3 => absurd (lgu rfl) c_3)
    refine lv_goto (tgt := 1466) hx hb dL_law_876 (by decide) ?_
    exact W.widen (by omega) (by omega) (next pl lo ct ti sh pr ia lt ty kp ek ef ltM tyM kpM wt wh zz po me ml sn dy 0 (vp_updL ov (0 : Int32).toNatClampNeg (cAt 26 ct v1).toInt64) H locs (INV_mono hI) hP hD hS ls (lv_sub hl [2, 3, 4, 5, 6] rfl))
set_option maxHeartbeats 4000000 in
set_option maxRecDepth 100000 in
theorem law_15 {p : Program} {l : Launch} {e : Env} {s : State} {m : MethodId} {below : List Frame} {meth : Method} {c : Code} {D : va_G} {z : Nat → ClassId} {q aa : Nat → Nat} {b L : Nat} {xs : Nat → Int32} {i : Nat} (G : LG p l e s m below meth c D z q b L xs) (h4 : 4 * i + 4 ≤ L) (next : LAW p l e s m below meth c D z aa b 1466 (i + 1) i) : LAW p l e s m below meth c D z aa b 879 i i := by
  obtain ⟨hx, hb, hml, hown, hts, hX, hbl, hE, hlt, hL⟩ := G
  have hi5 : i < 512 := by omega
  have hbA : ¬ (fun x : Nat => s.heap.size ≤ x) b := Nat.not_le_of_lt hbl
  have hA : ∀ x : Nat, s.heap.size ≤ x → (fun x : Nat => s.heap.size ≤ x) x := fun _ h => h
  have hK := hE.1
  intro pl lo ct ti sh pr ia lt ty kp ek ef ltM tyM kpM wt wh zz po me ml sn dy th ov H locs hI hP hD hS ls hl
  have ⟨hB, hPR, hIO, ⟨zn, hzz, hz40, hlt9, ps, hpo, hps, hty⟩, ⟨mn, hml9, hmn⟩, ⟨sk, hsn, hsk, hkp⟩⟩ := hI
  obtain ⟨v1, hv1⟩ : ∃ v, v = xs (nI (4 * i) + 1).toNatClampNeg := ⟨_, rfl⟩
  by_cases e0 : bW v1 0 25 = 0
  · refine lv_aload_n hx hb dL_law_879 rfl (lv_at hl 1 rfl) ?_
    refine lv_aload_n hx hb dL_law_880 rfl (lv_at hl 0 rfl) ?_
    refine lv_iload hx hb dL_law_881 (lv_at hl 4 rfl) ?_
    refine lv_iconst (v := 1) hx hb dL_law_883 (by decide) ?_
    refine lv_iadd hx hb dL_law_884 ?_
    refine mSld hx hb hX hbl hbA hS (show vp_in (nI (4 * i) + 1) L from in4 (k := 1) (by omega) hL) hv1 dL_law_885 ?_
    refine lv_aload_n hx hb dL_law_886 rfl (lv_at hl 3 rfl) ?_
    refine hwS (As := [.ref (aa 0), .int v1, .ref (aa 41)]) (rest := []) ⟨hx, hb, hml, hown, hts⟩ (c_L_time_0 l D z q (aa 0) (aa 1) (aa 6) (aa 15) (aa 17) (aa 22) (aa 25) (aa 27) dy (aa 7) (aa 8) (aa 9) (aa 10) (aa 11) (aa 12) (aa 13) (aa 14) ct ti sh pr wt wh v1 (aa 41) ov H.size e0 hlt) (vx_cwSW 3 hts gL_law_L_time rfl rfl rfl hd_L_time.2 ⟨Nat.le_of_ble_eq_true rfl, Nat.le_of_ble_eq_true rfl⟩) hE hS hA hP hD [0, 6, 7, 8, 9, 10, 11, 12, 13, 14, 41] rfl rfl rfl rfl hl.1 rfl (Nat.le_of_ble_eq_true rfl) dL_law_887 ⟨(by show 60 + 8 * i + 3 ≤ 601024; omega), (by show 4000 + 40 * i + 18 ≤ 7293034; omega)⟩ (fun H locs hP hD hS => ?_)
    have hP : va_P D vwCl (lawW z aa pl lo ct ti sh pr ia lt ty kp ek ef wt wh zz po me ml sn dy pl ct ti sh pr ia ltM tyM kpM ek ef wt wh zz po me ml sn dy th ov) H := hP
    have hD : va_D (fun x : Nat => s.heap.size ≤ x) (lawW z aa pl lo ct ti sh pr ia lt ty kp ek ef wt wh zz po me ml sn dy pl ct ti sh pr ia ltM tyM kpM ek ef wt wh zz po me ml sn dy th ov) := hD
    refine lv_istore (lv' := [(5, .int 1), (0, .ref b), (1, .ref (aa 0)), (2, .ref (aa 29)), (3, .ref (aa 41)), (4, .int (nI (4 * i)))]) hx hb dL_law_890 hl (by decide) rfl (fun ls hl => ?_)
    refine lv_aload_n hx hb dL_law_892 rfl (lv_at hl 3 rfl) ?_
    refine lv_aload_n hx hb dL_law_893 rfl (lv_at hl 1 rfl) ?_
    refine lv_iload hx hb dL_law_894 (lv_at hl 5 rfl) ?_
    refine lv_iconst (v := 1) hx hb dL_law_896 (by decide) ?_
    refine lv_iadd hx hb dL_law_897 ?_
    refine mSld hx hb hX hbl hbA hS (show vp_in (nI (4 * i) + 1) L from in4 (k := 1) (by omega) hL) hv1 dL_law_898 ?_
    refine wrVi (As := [.int v1]) (rest := []) ⟨hx, hb, hml, hown, hts⟩ (c_X7_time_b0 l D z q (aa 29) th (aa 30) (aa 31) (aa 32) (aa 33) (aa 34) (aa 35) (aa 36) (aa 37) (aa 38) (aa 39) (aa 40) pl ct ti sh ia pr ltM tyM zz po ml me ek ef wt wh sn kpM dy v1 H.size e0) (cwV 1 hts gL_law_X7_time rfl rfl rfl hd_X7_time ⟨Nat.le_of_ble_eq_true rfl, Nat.le_of_ble_eq_true rfl⟩) hE hS hA hP hD [29, 30, 31, 32, 33, 34, 35, 36, 37, 38, 39, 40] rfl rfl rfl rfl rfl rfl rfl hl.1 rfl (Nat.le_of_ble_eq_true rfl) dL_law_899 ⟨(by show 60 + 8 * i + 3 + 0 ≤ 601024; omega), (by show 4000 + 40 * i + 18 + 0 ≤ 7293034; omega)⟩ (fun H locs hP hD hS => ?_)
    have hP : va_P D vwCl (lawW z aa pl lo ct ti sh pr ia lt ty kp ek ef wt wh zz po me ml sn dy pl ct ti sh pr ia ltM tyM kpM ek ef wt wh zz po me ml sn dy 1 ov) H := hP
    have hD : va_D (fun x : Nat => s.heap.size ≤ x) (lawW z aa pl lo ct ti sh pr ia lt ty kp ek ef wt wh zz po me ml sn dy pl ct ti sh pr ia ltM tyM kpM ek ef wt wh zz po me ml sn dy 1 ov) := hD
    refine lv_istore (lv' := [(6, .int 0), (5, .int 1), (0, .ref b), (1, .ref (aa 0)), (2, .ref (aa 29)), (3, .ref (aa 41)), (4, .int (nI (4 * i)))]) hx hb dL_law_902 hl (by decide) rfl (fun ls hl => ?_)
    refine lv_aload_n hx hb dL_law_904 rfl (lv_at hl 4 rfl) ?_
    refine rdV (As := []) (rest := []) ⟨hx, hb, hml, hown, hts⟩ (c_X7_thrown l D z q (aa 29) 1 (aa 30) (aa 31) (aa 32) (aa 33) (aa 34) (aa 35) (aa 36) (aa 37) (aa 38) (aa 39) (aa 40) pl ct ti sh ia pr ltM tyM zz po ml me ek ef wt wh sn kpM dy) (cwV 0 hts gL_law_X7_thrown rfl rfl rfl hd_X7_thrown ⟨Nat.le_of_ble_eq_true rfl, Nat.le_of_ble_eq_true rfl⟩) hE hS hA hP [29, 30, 31, 32, 33, 34, 35, 36, 37, 38, 39, 40] rfl rfl rfl rfl rfl hl.1 rfl (Nat.le_of_ble_eq_true rfl) dL_law_905 ⟨(by show 60 + 8 * i + 3 + 0 ≤ 601024; omega), (by show 4000 + 40 * i + 18 + 0 ≤ 7293034; omega)⟩ ?_
    refine lv_iload hx hb dL_law_908 (lv_at hl 1 rfl) ?_
    refine lv_icmp_eq (tgt := 915) hx hb dL_law_910 (by decide) (fun _ => ?_) (fun c_1 => absurd (by decide) c_1)
    refine lv_iload hx hb dL_law_915 (lv_at hl 1 rfl) ?_
    refine lv_if_ne (tgt := 932) hx hb dL_law_917 (by decide) (fun _ => ?_) (fun c_2 => absurd c_2 (by decide))
    refine lv_goto (tgt := 1466) hx hb dL_law_932 (by decide) ?_
    exact W.widen (by omega) (by omega) (next pl lo ct ti sh pr ia lt ty kp ek ef ltM tyM kpM wt wh zz po me ml sn dy 1 ov H locs (INV_mono hI) hP hD hS ls (lv_sub hl [2, 3, 4, 5, 6] rfl))
  · refine lv_aload_n hx hb dL_law_879 rfl (lv_at hl 1 rfl) ?_
    refine lv_aload_n hx hb dL_law_880 rfl (lv_at hl 0 rfl) ?_
    refine lv_iload hx hb dL_law_881 (lv_at hl 4 rfl) ?_
    refine lv_iconst (v := 1) hx hb dL_law_883 (by decide) ?_
    refine lv_iadd hx hb dL_law_884 ?_
    refine mSld hx hb hX hbl hbA hS (show vp_in (nI (4 * i) + 1) L from in4 (k := 1) (by omega) hL) hv1 dL_law_885 ?_
    refine lv_aload_n hx hb dL_law_886 rfl (lv_at hl 3 rfl) ?_
    refine hwS (As := [.ref (aa 0), .int v1, .ref (aa 41)]) (rest := []) ⟨hx, hb, hml, hown, hts⟩ (c_L_time_1 l D z q (aa 0) (aa 1) (aa 6) (aa 15) (aa 17) (aa 22) (aa 25) (aa 27) dy (aa 7) (aa 8) (aa 9) (aa 10) (aa 11) (aa 12) (aa 13) (aa 14) ct ti sh pr wt wh v1 (aa 41) ov H.size e0 hlt) (vx_cwSW 3 hts gL_law_L_time rfl rfl rfl hd_L_time.2 ⟨Nat.le_of_ble_eq_true rfl, Nat.le_of_ble_eq_true rfl⟩) hE hS hA hP hD [0, 6, 7, 8, 9, 10, 11, 12, 13, 14, 41] rfl rfl rfl rfl hl.1 rfl (Nat.le_of_ble_eq_true rfl) dL_law_887 ⟨(by show 60 + 8 * i + 3 ≤ 601024; omega), (by show 4000 + 40 * i + 18 ≤ 7293034; omega)⟩ (fun H locs hP hD hS => ?_)
    have hP : va_P D vwCl (lawW z aa pl lo ct ti sh pr ia lt ty kp ek ef wt wh zz po me ml sn dy pl ct ti sh pr ia ltM tyM kpM ek ef wt wh zz po me ml sn dy th (vp_updL ov (0 : Int32).toNatClampNeg (cAt 26 ti v1).toInt64)) H := hP
    have hD : va_D (fun x : Nat => s.heap.size ≤ x) (lawW z aa pl lo ct ti sh pr ia lt ty kp ek ef wt wh zz po me ml sn dy pl ct ti sh pr ia ltM tyM kpM ek ef wt wh zz po me ml sn dy th (vp_updL ov (0 : Int32).toNatClampNeg (cAt 26 ti v1).toInt64)) := hD
    refine lv_istore (lv' := [(5, .int 0), (0, .ref b), (1, .ref (aa 0)), (2, .ref (aa 29)), (3, .ref (aa 41)), (4, .int (nI (4 * i)))]) hx hb dL_law_890 hl (by decide) rfl (fun ls hl => ?_)
    refine lv_aload_n hx hb dL_law_892 rfl (lv_at hl 3 rfl) ?_
    refine lv_aload_n hx hb dL_law_893 rfl (lv_at hl 1 rfl) ?_
    refine lv_iload hx hb dL_law_894 (lv_at hl 5 rfl) ?_
    refine lv_iconst (v := 1) hx hb dL_law_896 (by decide) ?_
    refine lv_iadd hx hb dL_law_897 ?_
    refine mSld hx hb hX hbl hbA hS (show vp_in (nI (4 * i) + 1) L from in4 (k := 1) (by omega) hL) hv1 dL_law_898 ?_
    refine wrVi (As := [.int v1]) (rest := []) ⟨hx, hb, hml, hown, hts⟩ (c_X7_time_ok l D z q (aa 29) th (aa 30) (aa 31) (aa 32) (aa 33) (aa 34) (aa 35) (aa 36) (aa 37) (aa 38) (aa 39) (aa 40) pl ct ti sh ia pr ltM tyM zz po ml me ek ef wt wh sn kpM dy v1 H.size e0) (cwV 1 hts gL_law_X7_time rfl rfl rfl hd_X7_time ⟨Nat.le_of_ble_eq_true rfl, Nat.le_of_ble_eq_true rfl⟩) hE hS hA hP hD [29, 30, 31, 32, 33, 34, 35, 36, 37, 38, 39, 40] rfl rfl rfl rfl rfl rfl rfl hl.1 rfl (Nat.le_of_ble_eq_true rfl) dL_law_899 ⟨(by show 60 + 8 * i + 3 + 0 ≤ 601024; omega), (by show 4000 + 40 * i + 18 + 0 ≤ 7293034; omega)⟩ (fun H locs hP hD hS => ?_)
    have hP : va_P D vwCl (lawW z aa pl lo ct ti sh pr ia lt ty kp ek ef wt wh zz po me ml sn dy pl ct ti sh pr ia ltM tyM kpM ek ef wt wh zz po me ml sn dy 0 (vp_updL ov (0 : Int32).toNatClampNeg (cAt 26 ti v1).toInt64)) H := hP
    have hD : va_D (fun x : Nat => s.heap.size ≤ x) (lawW z aa pl lo ct ti sh pr ia lt ty kp ek ef wt wh zz po me ml sn dy pl ct ti sh pr ia ltM tyM kpM ek ef wt wh zz po me ml sn dy 0 (vp_updL ov (0 : Int32).toNatClampNeg (cAt 26 ti v1).toInt64)) := hD
    refine lv_istore (lv' := [(6, .int (cAt 26 ti v1)), (5, .int 0), (0, .ref b), (1, .ref (aa 0)), (2, .ref (aa 29)), (3, .ref (aa 41)), (4, .int (nI (4 * i)))]) hx hb dL_law_902 hl (by decide) rfl (fun ls hl => ?_)
    refine lv_aload_n hx hb dL_law_904 rfl (lv_at hl 4 rfl) ?_
    refine rdV (As := []) (rest := []) ⟨hx, hb, hml, hown, hts⟩ (c_X7_thrown l D z q (aa 29) 0 (aa 30) (aa 31) (aa 32) (aa 33) (aa 34) (aa 35) (aa 36) (aa 37) (aa 38) (aa 39) (aa 40) pl ct ti sh ia pr ltM tyM zz po ml me ek ef wt wh sn kpM dy) (cwV 0 hts gL_law_X7_thrown rfl rfl rfl hd_X7_thrown ⟨Nat.le_of_ble_eq_true rfl, Nat.le_of_ble_eq_true rfl⟩) hE hS hA hP [29, 30, 31, 32, 33, 34, 35, 36, 37, 38, 39, 40] rfl rfl rfl rfl rfl hl.1 rfl (Nat.le_of_ble_eq_true rfl) dL_law_905 ⟨(by show 60 + 8 * i + 3 + 0 ≤ 601024; omega), (by show 4000 + 40 * i + 18 + 0 ≤ 7293034; omega)⟩ ?_
    refine lv_iload hx hb dL_law_908 (lv_at hl 1 rfl) ?_
    refine lv_icmp_eq (tgt := 915) hx hb dL_law_910 (by decide) (fun _ => ?_) (fun c_1 => absurd (by decide) c_1)
    refine lv_iload hx hb dL_law_915 (lv_at hl 1 rfl) ?_
    refine lv_if_ne (tgt := 932) hx hb dL_law_917 (by decide) (fun c_2 => absurd (by decide) c_2) (fun _ => ?_)
    refine lv_aload_n hx hb dL_law_920 rfl (lv_at hl 5 rfl) ?_
    refine lv_iconst (v := 0) hx hb dL_law_921 (by decide) ?_
    refine va_lald hx hb hK hP 41 2 rfl rfl in0 dL_law_922 ?_
    refine lv_iload hx hb dL_law_923 (lv_at hl 0 rfl) ?_
    refine lv_i2l (v := (cAt 26 ti v1).toInt64) hx hb dL_law_925 rfl ?_
    refine W.lcmp hx hb dL_law_926 ?_
    refine lv_if_eq (tgt := 932) hx hb dL_law_927 (by decide) (fun _ => ?_) (fun c_3 => absurd (lgu rfl) c_3)
    refine lv_goto (tgt := 1466) hx hb dL_law_932 (by decide) ?_
    exact W.widen (by omega) (by omega) (next pl lo ct ti sh pr ia lt ty kp ek ef ltM tyM kpM wt wh zz po me ml sn dy 0 (vp_updL ov (0 : Int32).toNatClampNeg (cAt 26 ti v1).toInt64) H locs (INV_mono hI) hP hD hS ls (lv_sub hl [2, 3, 4, 5, 6] rfl))
set_option maxHeartbeats 4000000 in
set_option maxRecDepth 100000 in
theorem law_16 {p : Program} {l : Launch} {e : Env} {s : State} {m : MethodId} {below : List Frame} {meth : Method} {c : Code} {D : va_G} {z : Nat → ClassId} {q aa : Nat → Nat} {b L : Nat} {xs : Nat → Int32} {i : Nat} (G : LG p l e s m below meth c D z q b L xs) (h4 : 4 * i + 4 ≤ L) (next : LAW p l e s m below meth c D z aa b 1466 (i + 1) i) : LAW p l e s m below meth c D z aa b 935 i i := by
  obtain ⟨hx, hb, hml, hown, hts, hX, hbl, hE, hlt, hL⟩ := G
  have hi5 : i < 512 := by omega
  have hbA : ¬ (fun x : Nat => s.heap.size ≤ x) b := Nat.not_le_of_lt hbl
  have hA : ∀ x : Nat, s.heap.size ≤ x → (fun x : Nat => s.heap.size ≤ x) x := fun _ h => h
  have hK := hE.1
  intro pl lo ct ti sh pr ia lt ty kp ek ef ltM tyM kpM wt wh zz po me ml sn dy th ov H locs hI hP hD hS ls hl
  have ⟨hB, hPR, hIO, ⟨zn, hzz, hz40, hlt9, ps, hpo, hps, hty⟩, ⟨mn, hml9, hmn⟩, ⟨sk, hsn, hsk, hkp⟩⟩ := hI
  obtain ⟨v1, hv1⟩ : ∃ v, v = xs (nI (4 * i) + 1).toNatClampNeg := ⟨_, rfl⟩
  by_cases e0 : bW v1 0 25 = 0
  · refine lv_aload_n hx hb dL_law_935 rfl (lv_at hl 1 rfl) ?_
    refine lv_aload_n hx hb dL_law_936 rfl (lv_at hl 0 rfl) ?_
    refine lv_iload hx hb dL_law_937 (lv_at hl 4 rfl) ?_
    refine lv_iconst (v := 1) hx hb dL_law_939 (by decide) ?_
    refine lv_iadd hx hb dL_law_940 ?_
    refine mSld hx hb hX hbl hbA hS (show vp_in (nI (4 * i) + 1) L from in4 (k := 1) (by omega) hL) hv1 dL_law_941 ?_
    refine lv_aload_n hx hb dL_law_942 rfl (lv_at hl 3 rfl) ?_
    refine hwS (As := [.ref (aa 0), .int v1, .ref (aa 41)]) (rest := []) ⟨hx, hb, hml, hown, hts⟩ (c_L_share_0 l D z q (aa 0) (aa 1) (aa 6) (aa 15) (aa 17) (aa 22) (aa 25) (aa 27) dy (aa 7) (aa 8) (aa 9) (aa 10) (aa 11) (aa 12) (aa 13) (aa 14) ct ti sh pr wt wh v1 (aa 41) ov H.size e0 hlt) (vx_cwSW 3 hts gL_law_L_share rfl rfl rfl hd_L_share.2 ⟨Nat.le_of_ble_eq_true rfl, Nat.le_of_ble_eq_true rfl⟩) hE hS hA hP hD [0, 6, 7, 8, 9, 10, 11, 12, 13, 14, 41] rfl rfl rfl rfl hl.1 rfl (Nat.le_of_ble_eq_true rfl) dL_law_943 ⟨(by show 60 + 8 * i + 3 ≤ 601024; omega), (by show 4000 + 40 * i + 18 ≤ 7293034; omega)⟩ (fun H locs hP hD hS => ?_)
    have hP : va_P D vwCl (lawW z aa pl lo ct ti sh pr ia lt ty kp ek ef wt wh zz po me ml sn dy pl ct ti sh pr ia ltM tyM kpM ek ef wt wh zz po me ml sn dy th ov) H := hP
    have hD : va_D (fun x : Nat => s.heap.size ≤ x) (lawW z aa pl lo ct ti sh pr ia lt ty kp ek ef wt wh zz po me ml sn dy pl ct ti sh pr ia ltM tyM kpM ek ef wt wh zz po me ml sn dy th ov) := hD
    refine lv_istore (lv' := [(5, .int 1), (0, .ref b), (1, .ref (aa 0)), (2, .ref (aa 29)), (3, .ref (aa 41)), (4, .int (nI (4 * i)))]) hx hb dL_law_946 hl (by decide) rfl (fun ls hl => ?_)
    refine lv_aload_n hx hb dL_law_948 rfl (lv_at hl 3 rfl) ?_
    refine lv_aload_n hx hb dL_law_949 rfl (lv_at hl 1 rfl) ?_
    refine lv_iload hx hb dL_law_950 (lv_at hl 5 rfl) ?_
    refine lv_iconst (v := 1) hx hb dL_law_952 (by decide) ?_
    refine lv_iadd hx hb dL_law_953 ?_
    refine mSld hx hb hX hbl hbA hS (show vp_in (nI (4 * i) + 1) L from in4 (k := 1) (by omega) hL) hv1 dL_law_954 ?_
    refine wrVi (As := [.int v1]) (rest := []) ⟨hx, hb, hml, hown, hts⟩ (c_X7_share_b0 l D z q (aa 29) th (aa 30) (aa 31) (aa 32) (aa 33) (aa 34) (aa 35) (aa 36) (aa 37) (aa 38) (aa 39) (aa 40) pl ct ti sh ia pr ltM tyM zz po ml me ek ef wt wh sn kpM dy v1 H.size e0) (cwV 1 hts gL_law_X7_share rfl rfl rfl hd_X7_share ⟨Nat.le_of_ble_eq_true rfl, Nat.le_of_ble_eq_true rfl⟩) hE hS hA hP hD [29, 30, 31, 32, 33, 34, 35, 36, 37, 38, 39, 40] rfl rfl rfl rfl rfl rfl rfl hl.1 rfl (Nat.le_of_ble_eq_true rfl) dL_law_955 ⟨(by show 60 + 8 * i + 3 + 0 ≤ 601024; omega), (by show 4000 + 40 * i + 18 + 0 ≤ 7293034; omega)⟩ (fun H locs hP hD hS => ?_)
    have hP : va_P D vwCl (lawW z aa pl lo ct ti sh pr ia lt ty kp ek ef wt wh zz po me ml sn dy pl ct ti sh pr ia ltM tyM kpM ek ef wt wh zz po me ml sn dy 1 ov) H := hP
    have hD : va_D (fun x : Nat => s.heap.size ≤ x) (lawW z aa pl lo ct ti sh pr ia lt ty kp ek ef wt wh zz po me ml sn dy pl ct ti sh pr ia ltM tyM kpM ek ef wt wh zz po me ml sn dy 1 ov) := hD
    refine lv_istore (lv' := [(6, .int 0), (5, .int 1), (0, .ref b), (1, .ref (aa 0)), (2, .ref (aa 29)), (3, .ref (aa 41)), (4, .int (nI (4 * i)))]) hx hb dL_law_958 hl (by decide) rfl (fun ls hl => ?_)
    refine lv_aload_n hx hb dL_law_960 rfl (lv_at hl 4 rfl) ?_
    refine rdV (As := []) (rest := []) ⟨hx, hb, hml, hown, hts⟩ (c_X7_thrown l D z q (aa 29) 1 (aa 30) (aa 31) (aa 32) (aa 33) (aa 34) (aa 35) (aa 36) (aa 37) (aa 38) (aa 39) (aa 40) pl ct ti sh ia pr ltM tyM zz po ml me ek ef wt wh sn kpM dy) (cwV 0 hts gL_law_X7_thrown rfl rfl rfl hd_X7_thrown ⟨Nat.le_of_ble_eq_true rfl, Nat.le_of_ble_eq_true rfl⟩) hE hS hA hP [29, 30, 31, 32, 33, 34, 35, 36, 37, 38, 39, 40] rfl rfl rfl rfl rfl hl.1 rfl (Nat.le_of_ble_eq_true rfl) dL_law_961 ⟨(by show 60 + 8 * i + 3 + 0 ≤ 601024; omega), (by show 4000 + 40 * i + 18 + 0 ≤ 7293034; omega)⟩ ?_
    refine lv_iload hx hb dL_law_964 (lv_at hl 1 rfl) ?_
    refine lv_icmp_eq (tgt := 971) hx hb dL_law_966 (by decide) (fun _ => ?_) (fun c_1 => absurd (by decide) c_1)
    refine lv_iload hx hb dL_law_971 (lv_at hl 1 rfl) ?_
    refine lv_if_ne (tgt := 988) hx hb dL_law_973 (by decide) (fun _ => ?_) (fun c_2 => absurd c_2 (by decide))
    refine lv_goto (tgt := 1466) hx hb dL_law_988 (by decide) ?_
    exact W.widen (by omega) (by omega) (next pl lo ct ti sh pr ia lt ty kp ek ef ltM tyM kpM wt wh zz po me ml sn dy 1 ov H locs (INV_mono hI) hP hD hS ls (lv_sub hl [2, 3, 4, 5, 6] rfl))
  · refine lv_aload_n hx hb dL_law_935 rfl (lv_at hl 1 rfl) ?_
    refine lv_aload_n hx hb dL_law_936 rfl (lv_at hl 0 rfl) ?_
    refine lv_iload hx hb dL_law_937 (lv_at hl 4 rfl) ?_
    refine lv_iconst (v := 1) hx hb dL_law_939 (by decide) ?_
    refine lv_iadd hx hb dL_law_940 ?_
    refine mSld hx hb hX hbl hbA hS (show vp_in (nI (4 * i) + 1) L from in4 (k := 1) (by omega) hL) hv1 dL_law_941 ?_
    refine lv_aload_n hx hb dL_law_942 rfl (lv_at hl 3 rfl) ?_
    refine hwS (As := [.ref (aa 0), .int v1, .ref (aa 41)]) (rest := []) ⟨hx, hb, hml, hown, hts⟩ (c_L_share_1 l D z q (aa 0) (aa 1) (aa 6) (aa 15) (aa 17) (aa 22) (aa 25) (aa 27) dy (aa 7) (aa 8) (aa 9) (aa 10) (aa 11) (aa 12) (aa 13) (aa 14) ct ti sh pr wt wh v1 (aa 41) ov H.size e0 hlt) (vx_cwSW 3 hts gL_law_L_share rfl rfl rfl hd_L_share.2 ⟨Nat.le_of_ble_eq_true rfl, Nat.le_of_ble_eq_true rfl⟩) hE hS hA hP hD [0, 6, 7, 8, 9, 10, 11, 12, 13, 14, 41] rfl rfl rfl rfl hl.1 rfl (Nat.le_of_ble_eq_true rfl) dL_law_943 ⟨(by show 60 + 8 * i + 3 ≤ 601024; omega), (by show 4000 + 40 * i + 18 ≤ 7293034; omega)⟩ (fun H locs hP hD hS => ?_)
    have hP : va_P D vwCl (lawW z aa pl lo ct ti sh pr ia lt ty kp ek ef wt wh zz po me ml sn dy pl ct ti sh pr ia ltM tyM kpM ek ef wt wh zz po me ml sn dy th (vp_updL ov (0 : Int32).toNatClampNeg (cAt 26 sh v1).toInt64)) H := hP
    have hD : va_D (fun x : Nat => s.heap.size ≤ x) (lawW z aa pl lo ct ti sh pr ia lt ty kp ek ef wt wh zz po me ml sn dy pl ct ti sh pr ia ltM tyM kpM ek ef wt wh zz po me ml sn dy th (vp_updL ov (0 : Int32).toNatClampNeg (cAt 26 sh v1).toInt64)) := hD
    refine lv_istore (lv' := [(5, .int 0), (0, .ref b), (1, .ref (aa 0)), (2, .ref (aa 29)), (3, .ref (aa 41)), (4, .int (nI (4 * i)))]) hx hb dL_law_946 hl (by decide) rfl (fun ls hl => ?_)
    refine lv_aload_n hx hb dL_law_948 rfl (lv_at hl 3 rfl) ?_
    refine lv_aload_n hx hb dL_law_949 rfl (lv_at hl 1 rfl) ?_
    refine lv_iload hx hb dL_law_950 (lv_at hl 5 rfl) ?_
    refine lv_iconst (v := 1) hx hb dL_law_952 (by decide) ?_
    refine lv_iadd hx hb dL_law_953 ?_
    refine mSld hx hb hX hbl hbA hS (show vp_in (nI (4 * i) + 1) L from in4 (k := 1) (by omega) hL) hv1 dL_law_954 ?_
    refine wrVi (As := [.int v1]) (rest := []) ⟨hx, hb, hml, hown, hts⟩ (c_X7_share_ok l D z q (aa 29) th (aa 30) (aa 31) (aa 32) (aa 33) (aa 34) (aa 35) (aa 36) (aa 37) (aa 38) (aa 39) (aa 40) pl ct ti sh ia pr ltM tyM zz po ml me ek ef wt wh sn kpM dy v1 H.size e0) (cwV 1 hts gL_law_X7_share rfl rfl rfl hd_X7_share ⟨Nat.le_of_ble_eq_true rfl, Nat.le_of_ble_eq_true rfl⟩) hE hS hA hP hD [29, 30, 31, 32, 33, 34, 35, 36, 37, 38, 39, 40] rfl rfl rfl rfl rfl rfl rfl hl.1 rfl (Nat.le_of_ble_eq_true rfl) dL_law_955 ⟨(by show 60 + 8 * i + 3 + 0 ≤ 601024; omega), (by show 4000 + 40 * i + 18 + 0 ≤ 7293034; omega)⟩ (fun H locs hP hD hS => ?_)
    have hP : va_P D vwCl (lawW z aa pl lo ct ti sh pr ia lt ty kp ek ef wt wh zz po me ml sn dy pl ct ti sh pr ia ltM tyM kpM ek ef wt wh zz po me ml sn dy 0 (vp_updL ov (0 : Int32).toNatClampNeg (cAt 26 sh v1).toInt64)) H := hP
    have hD : va_D (fun x : Nat => s.heap.size ≤ x) (lawW z aa pl lo ct ti sh pr ia lt ty kp ek ef wt wh zz po me ml sn dy pl ct ti sh pr ia ltM tyM kpM ek ef wt wh zz po me ml sn dy 0 (vp_updL ov (0 : Int32).toNatClampNeg (cAt 26 sh v1).toInt64)) := hD
    refine lv_istore (lv' := [(6, .int (cAt 26 sh v1)), (5, .int 0), (0, .ref b), (1, .ref (aa 0)), (2, .ref (aa 29)), (3, .ref (aa 41)), (4, .int (nI (4 * i)))]) hx hb dL_law_958 hl (by decide) rfl (fun ls hl => ?_)
    refine lv_aload_n hx hb dL_law_960 rfl (lv_at hl 4 rfl) ?_
    refine rdV (As := []) (rest := []) ⟨hx, hb, hml, hown, hts⟩ (c_X7_thrown l D z q (aa 29) 0 (aa 30) (aa 31) (aa 32) (aa 33) (aa 34) (aa 35) (aa 36) (aa 37) (aa 38) (aa 39) (aa 40) pl ct ti sh ia pr ltM tyM zz po ml me ek ef wt wh sn kpM dy) (cwV 0 hts gL_law_X7_thrown rfl rfl rfl hd_X7_thrown ⟨Nat.le_of_ble_eq_true rfl, Nat.le_of_ble_eq_true rfl⟩) hE hS hA hP [29, 30, 31, 32, 33, 34, 35, 36, 37, 38, 39, 40] rfl rfl rfl rfl rfl hl.1 rfl (Nat.le_of_ble_eq_true rfl) dL_law_961 ⟨(by show 60 + 8 * i + 3 + 0 ≤ 601024; omega), (by show 4000 + 40 * i + 18 + 0 ≤ 7293034; omega)⟩ ?_
    refine lv_iload hx hb dL_law_964 (lv_at hl 1 rfl) ?_
    refine lv_icmp_eq (tgt := 971) hx hb dL_law_966 (by decide) (fun _ => ?_) (fun c_1 => absurd (by decide) c_1)
    refine lv_iload hx hb dL_law_971 (lv_at hl 1 rfl) ?_
    refine lv_if_ne (tgt := 988) hx hb dL_law_973 (by decide) (fun c_2 => absurd (by decide) c_2) (fun _ => ?_)
    refine lv_aload_n hx hb dL_law_976 rfl (lv_at hl 5 rfl) ?_
    refine lv_iconst (v := 0) hx hb dL_law_977 (by decide) ?_
    refine va_lald hx hb hK hP 41 2 rfl rfl in0 dL_law_978 ?_
    refine lv_iload hx hb dL_law_979 (lv_at hl 0 rfl) ?_
    refine lv_i2l (v := (cAt 26 sh v1).toInt64) hx hb dL_law_981 rfl ?_
    refine W.lcmp hx hb dL_law_982 ?_
    refine lv_if_eq (tgt := 988) hx hb dL_law_983 (by decide) (fun _ => ?_) (fun c_3 => absurd (lgu rfl) c_3)
    refine lv_goto (tgt := 1466) hx hb dL_law_988 (by decide) ?_
    exact W.widen (by omega) (by omega) (next pl lo ct ti sh pr ia lt ty kp ek ef ltM tyM kpM wt wh zz po me ml sn dy 0 (vp_updL ov (0 : Int32).toNatClampNeg (cAt 26 sh v1).toInt64) H locs (INV_mono hI) hP hD hS ls (lv_sub hl [2, 3, 4, 5, 6] rfl))
set_option maxHeartbeats 4000000 in
set_option maxRecDepth 100000 in
theorem law_17 {p : Program} {l : Launch} {e : Env} {s : State} {m : MethodId} {below : List Frame} {meth : Method} {c : Code} {D : va_G} {z : Nat → ClassId} {q aa : Nat → Nat} {b L : Nat} {xs : Nat → Int32} {i : Nat} (G : LG p l e s m below meth c D z q b L xs) (h4 : 4 * i + 4 ≤ L) (next : LAW p l e s m below meth c D z aa b 1466 (i + 1) i) : LAW p l e s m below meth c D z aa b 991 i i := by
  obtain ⟨hx, hb, hml, hown, hts, hX, hbl, hE, hlt, hL⟩ := G
  have hi5 : i < 512 := by omega
  have hbA : ¬ (fun x : Nat => s.heap.size ≤ x) b := Nat.not_le_of_lt hbl
  have hA : ∀ x : Nat, s.heap.size ≤ x → (fun x : Nat => s.heap.size ≤ x) x := fun _ h => h
  have hK := hE.1
  intro pl lo ct ti sh pr ia lt ty kp ek ef ltM tyM kpM wt wh zz po me ml sn dy th ov H locs hI hP hD hS ls hl
  have ⟨hB, hPR, hIO, ⟨zn, hzz, hz40, hlt9, ps, hpo, hps, hty⟩, ⟨mn, hml9, hmn⟩, ⟨sk, hsn, hsk, hkp⟩⟩ := hI
  obtain ⟨v1, hv1⟩ : ∃ v, v = xs (nI (4 * i) + 1).toNatClampNeg := ⟨_, rfl⟩
  obtain ⟨v2, hv2⟩ : ∃ v, v = xs (nI (4 * i) + 2).toNatClampNeg := ⟨_, rfl⟩
  by_cases e0 : bW v1 0 25 = 0
  · refine lv_aload_n hx hb dL_law_991 rfl (lv_at hl 1 rfl) ?_
    refine lv_aload_n hx hb dL_law_992 rfl (lv_at hl 0 rfl) ?_
    refine lv_iload hx hb dL_law_993 (lv_at hl 4 rfl) ?_
    refine lv_iconst (v := 1) hx hb dL_law_995 (by decide) ?_
    refine lv_iadd hx hb dL_law_996 ?_
    refine mSld hx hb hX hbl hbA hS (show vp_in (nI (4 * i) + 1) L from in4 (k := 1) (by omega) hL) hv1 dL_law_997 ?_
    refine lv_aload_n hx hb dL_law_998 rfl (lv_at hl 0 rfl) ?_
    refine lv_iload hx hb dL_law_999 (lv_at hl 4 rfl) ?_
    refine lv_iconst (v := 2) hx hb dL_law_1001 (by decide) ?_
    refine lv_iadd hx hb dL_law_1002 ?_
    refine mSld hx hb hX hbl hbA hS (show vp_in (nI (4 * i) + 2) L from in4 (k := 2) (by omega) hL) hv2 dL_law_1003 ?_
    refine lv_aload_n hx hb dL_law_1004 rfl (lv_at hl 3 rfl) ?_
    refine hwS (As := [.ref (aa 0), .int v1, .int v2, .ref (aa 41)]) (rest := []) ⟨hx, hb, hml, hown, hts⟩ (c_L_pairTime_0 l D z q (aa 0) (aa 1) (aa 6) (aa 15) (aa 17) (aa 22) (aa 25) (aa 27) dy (aa 7) (aa 8) (aa 9) (aa 10) (aa 11) (aa 12) (aa 13) (aa 14) ct ti sh pr wt wh v1 v2 (aa 41) ov H.size e0 hlt) (vx_cwSW 4 hts gL_law_L_pairTime rfl rfl rfl hd_L_pairTime.2 ⟨Nat.le_of_ble_eq_true rfl, Nat.le_of_ble_eq_true rfl⟩) hE hS hA hP hD [0, 6, 7, 8, 9, 10, 11, 12, 13, 14, 41] rfl rfl rfl rfl hl.1 rfl (Nat.le_of_ble_eq_true rfl) dL_law_1005 ⟨(by show 60 + 8 * i + 3 ≤ 601024; omega), (by show 4000 + 40 * i + 18 ≤ 7293034; omega)⟩ (fun H locs hP hD hS => ?_)
    have hP : va_P D vwCl (lawW z aa pl lo ct ti sh pr ia lt ty kp ek ef wt wh zz po me ml sn dy pl ct ti sh pr ia ltM tyM kpM ek ef wt wh zz po me ml sn dy th ov) H := hP
    have hD : va_D (fun x : Nat => s.heap.size ≤ x) (lawW z aa pl lo ct ti sh pr ia lt ty kp ek ef wt wh zz po me ml sn dy pl ct ti sh pr ia ltM tyM kpM ek ef wt wh zz po me ml sn dy th ov) := hD
    refine lv_istore (lv' := [(5, .int 1), (0, .ref b), (1, .ref (aa 0)), (2, .ref (aa 29)), (3, .ref (aa 41)), (4, .int (nI (4 * i)))]) hx hb dL_law_1008 hl (by decide) rfl (fun ls hl => ?_)
    refine lv_aload_n hx hb dL_law_1010 rfl (lv_at hl 3 rfl) ?_
    refine lv_aload_n hx hb dL_law_1011 rfl (lv_at hl 1 rfl) ?_
    refine lv_iload hx hb dL_law_1012 (lv_at hl 5 rfl) ?_
    refine lv_iconst (v := 1) hx hb dL_law_1014 (by decide) ?_
    refine lv_iadd hx hb dL_law_1015 ?_
    refine mSld hx hb hX hbl hbA hS (show vp_in (nI (4 * i) + 1) L from in4 (k := 1) (by omega) hL) hv1 dL_law_1016 ?_
    refine lv_aload_n hx hb dL_law_1017 rfl (lv_at hl 1 rfl) ?_
    refine lv_iload hx hb dL_law_1018 (lv_at hl 5 rfl) ?_
    refine lv_iconst (v := 2) hx hb dL_law_1020 (by decide) ?_
    refine lv_iadd hx hb dL_law_1021 ?_
    refine mSld hx hb hX hbl hbA hS (show vp_in (nI (4 * i) + 2) L from in4 (k := 2) (by omega) hL) hv2 dL_law_1022 ?_
    refine wrVi (As := [.int v1, .int v2]) (rest := []) ⟨hx, hb, hml, hown, hts⟩ (c_X7_pairTime_b0 l D z q (aa 29) th (aa 30) (aa 31) (aa 32) (aa 33) (aa 34) (aa 35) (aa 36) (aa 37) (aa 38) (aa 39) (aa 40) pl ct ti sh ia pr ltM tyM zz po ml me ek ef wt wh sn kpM dy v1 v2 H.size e0) (cwV 2 hts gL_law_X7_pairTime rfl rfl rfl hd_X7_pairTime ⟨Nat.le_of_ble_eq_true rfl, Nat.le_of_ble_eq_true rfl⟩) hE hS hA hP hD [29, 30, 31, 32, 33, 34, 35, 36, 37, 38, 39, 40] rfl rfl rfl rfl rfl rfl rfl hl.1 rfl (Nat.le_of_ble_eq_true rfl) dL_law_1023 ⟨(by show 60 + 8 * i + 3 + 0 ≤ 601024; omega), (by show 4000 + 40 * i + 18 + 0 ≤ 7293034; omega)⟩ (fun H locs hP hD hS => ?_)
    have hP : va_P D vwCl (lawW z aa pl lo ct ti sh pr ia lt ty kp ek ef wt wh zz po me ml sn dy pl ct ti sh pr ia ltM tyM kpM ek ef wt wh zz po me ml sn dy 1 ov) H := hP
    have hD : va_D (fun x : Nat => s.heap.size ≤ x) (lawW z aa pl lo ct ti sh pr ia lt ty kp ek ef wt wh zz po me ml sn dy pl ct ti sh pr ia ltM tyM kpM ek ef wt wh zz po me ml sn dy 1 ov) := hD
    refine lv_istore (lv' := [(6, .int 0), (5, .int 1), (0, .ref b), (1, .ref (aa 0)), (2, .ref (aa 29)), (3, .ref (aa 41)), (4, .int (nI (4 * i)))]) hx hb dL_law_1026 hl (by decide) rfl (fun ls hl => ?_)
    refine lv_aload_n hx hb dL_law_1028 rfl (lv_at hl 4 rfl) ?_
    refine rdV (As := []) (rest := []) ⟨hx, hb, hml, hown, hts⟩ (c_X7_thrown l D z q (aa 29) 1 (aa 30) (aa 31) (aa 32) (aa 33) (aa 34) (aa 35) (aa 36) (aa 37) (aa 38) (aa 39) (aa 40) pl ct ti sh ia pr ltM tyM zz po ml me ek ef wt wh sn kpM dy) (cwV 0 hts gL_law_X7_thrown rfl rfl rfl hd_X7_thrown ⟨Nat.le_of_ble_eq_true rfl, Nat.le_of_ble_eq_true rfl⟩) hE hS hA hP [29, 30, 31, 32, 33, 34, 35, 36, 37, 38, 39, 40] rfl rfl rfl rfl rfl hl.1 rfl (Nat.le_of_ble_eq_true rfl) dL_law_1029 ⟨(by show 60 + 8 * i + 3 + 0 ≤ 601024; omega), (by show 4000 + 40 * i + 18 + 0 ≤ 7293034; omega)⟩ ?_
    refine lv_iload hx hb dL_law_1032 (lv_at hl 1 rfl) ?_
    refine lv_icmp_eq (tgt := 1039) hx hb dL_law_1034 (by decide) (fun _ => ?_) (fun c_1 => absurd (by decide) c_1)
    refine lv_iload hx hb dL_law_1039 (lv_at hl 1 rfl) ?_
    refine lv_if_ne (tgt := 1056) hx hb dL_law_1041 (by decide) (fun _ => ?_) (fun c_2 => absurd c_2 (by decide))
    refine lv_goto (tgt := 1466) hx hb dL_law_1056 (by decide) ?_
    exact W.widen (by omega) (by omega) (next pl lo ct ti sh pr ia lt ty kp ek ef ltM tyM kpM wt wh zz po me ml sn dy 1 ov H locs (INV_mono hI) hP hD hS ls (lv_sub hl [2, 3, 4, 5, 6] rfl))
  · by_cases e1 : bW v2 0 25 = 0
    · refine lv_aload_n hx hb dL_law_991 rfl (lv_at hl 1 rfl) ?_
      refine lv_aload_n hx hb dL_law_992 rfl (lv_at hl 0 rfl) ?_
      refine lv_iload hx hb dL_law_993 (lv_at hl 4 rfl) ?_
      refine lv_iconst (v := 1) hx hb dL_law_995 (by decide) ?_
      refine lv_iadd hx hb dL_law_996 ?_
      refine mSld hx hb hX hbl hbA hS (show vp_in (nI (4 * i) + 1) L from in4 (k := 1) (by omega) hL) hv1 dL_law_997 ?_
      refine lv_aload_n hx hb dL_law_998 rfl (lv_at hl 0 rfl) ?_
      refine lv_iload hx hb dL_law_999 (lv_at hl 4 rfl) ?_
      refine lv_iconst (v := 2) hx hb dL_law_1001 (by decide) ?_
      refine lv_iadd hx hb dL_law_1002 ?_
      refine mSld hx hb hX hbl hbA hS (show vp_in (nI (4 * i) + 2) L from in4 (k := 2) (by omega) hL) hv2 dL_law_1003 ?_
      refine lv_aload_n hx hb dL_law_1004 rfl (lv_at hl 3 rfl) ?_
      refine hwS (As := [.ref (aa 0), .int v1, .int v2, .ref (aa 41)]) (rest := []) ⟨hx, hb, hml, hown, hts⟩ (c_L_pairTime_1 l D z q (aa 0) (aa 1) (aa 6) (aa 15) (aa 17) (aa 22) (aa 25) (aa 27) dy (aa 7) (aa 8) (aa 9) (aa 10) (aa 11) (aa 12) (aa 13) (aa 14) ct ti sh pr wt wh v1 v2 (aa 41) ov H.size e0 e1 hlt) (vx_cwSW 4 hts gL_law_L_pairTime rfl rfl rfl hd_L_pairTime.2 ⟨Nat.le_of_ble_eq_true rfl, Nat.le_of_ble_eq_true rfl⟩) hE hS hA hP hD [0, 6, 7, 8, 9, 10, 11, 12, 13, 14, 41] rfl rfl rfl rfl hl.1 rfl (Nat.le_of_ble_eq_true rfl) dL_law_1005 ⟨(by show 60 + 8 * i + 3 ≤ 601024; omega), (by show 4000 + 40 * i + 18 ≤ 7293034; omega)⟩ (fun H locs hP hD hS => ?_)
      have hP : va_P D vwCl (lawW z aa pl lo ct ti sh pr ia lt ty kp ek ef wt wh zz po me ml sn dy pl ct ti sh pr ia ltM tyM kpM ek ef wt wh zz po me ml sn dy th ov) H := hP
      have hD : va_D (fun x : Nat => s.heap.size ≤ x) (lawW z aa pl lo ct ti sh pr ia lt ty kp ek ef wt wh zz po me ml sn dy pl ct ti sh pr ia ltM tyM kpM ek ef wt wh zz po me ml sn dy th ov) := hD
      refine lv_istore (lv' := [(5, .int 1), (0, .ref b), (1, .ref (aa 0)), (2, .ref (aa 29)), (3, .ref (aa 41)), (4, .int (nI (4 * i)))]) hx hb dL_law_1008 hl (by decide) rfl (fun ls hl => ?_)
      refine lv_aload_n hx hb dL_law_1010 rfl (lv_at hl 3 rfl) ?_
      refine lv_aload_n hx hb dL_law_1011 rfl (lv_at hl 1 rfl) ?_
      refine lv_iload hx hb dL_law_1012 (lv_at hl 5 rfl) ?_
      refine lv_iconst (v := 1) hx hb dL_law_1014 (by decide) ?_
      refine lv_iadd hx hb dL_law_1015 ?_
      refine mSld hx hb hX hbl hbA hS (show vp_in (nI (4 * i) + 1) L from in4 (k := 1) (by omega) hL) hv1 dL_law_1016 ?_
      refine lv_aload_n hx hb dL_law_1017 rfl (lv_at hl 1 rfl) ?_
      refine lv_iload hx hb dL_law_1018 (lv_at hl 5 rfl) ?_
      refine lv_iconst (v := 2) hx hb dL_law_1020 (by decide) ?_
      refine lv_iadd hx hb dL_law_1021 ?_
      refine mSld hx hb hX hbl hbA hS (show vp_in (nI (4 * i) + 2) L from in4 (k := 2) (by omega) hL) hv2 dL_law_1022 ?_
      refine wrVi (As := [.int v1, .int v2]) (rest := []) ⟨hx, hb, hml, hown, hts⟩ (c_X7_pairTime_b1 l D z q (aa 29) th (aa 30) (aa 31) (aa 32) (aa 33) (aa 34) (aa 35) (aa 36) (aa 37) (aa 38) (aa 39) (aa 40) pl ct ti sh ia pr ltM tyM zz po ml me ek ef wt wh sn kpM dy v1 v2 H.size e0 e1) (cwV 2 hts gL_law_X7_pairTime rfl rfl rfl hd_X7_pairTime ⟨Nat.le_of_ble_eq_true rfl, Nat.le_of_ble_eq_true rfl⟩) hE hS hA hP hD [29, 30, 31, 32, 33, 34, 35, 36, 37, 38, 39, 40] rfl rfl rfl rfl rfl rfl rfl hl.1 rfl (Nat.le_of_ble_eq_true rfl) dL_law_1023 ⟨(by show 60 + 8 * i + 3 + 0 ≤ 601024; omega), (by show 4000 + 40 * i + 18 + 0 ≤ 7293034; omega)⟩ (fun H locs hP hD hS => ?_)
      have hP : va_P D vwCl (lawW z aa pl lo ct ti sh pr ia lt ty kp ek ef wt wh zz po me ml sn dy pl ct ti sh pr ia ltM tyM kpM ek ef wt wh zz po me ml sn dy 1 ov) H := hP
      have hD : va_D (fun x : Nat => s.heap.size ≤ x) (lawW z aa pl lo ct ti sh pr ia lt ty kp ek ef wt wh zz po me ml sn dy pl ct ti sh pr ia ltM tyM kpM ek ef wt wh zz po me ml sn dy 1 ov) := hD
      refine lv_istore (lv' := [(6, .int 0), (5, .int 1), (0, .ref b), (1, .ref (aa 0)), (2, .ref (aa 29)), (3, .ref (aa 41)), (4, .int (nI (4 * i)))]) hx hb dL_law_1026 hl (by decide) rfl (fun ls hl => ?_)
      refine lv_aload_n hx hb dL_law_1028 rfl (lv_at hl 4 rfl) ?_
      refine rdV (As := []) (rest := []) ⟨hx, hb, hml, hown, hts⟩ (c_X7_thrown l D z q (aa 29) 1 (aa 30) (aa 31) (aa 32) (aa 33) (aa 34) (aa 35) (aa 36) (aa 37) (aa 38) (aa 39) (aa 40) pl ct ti sh ia pr ltM tyM zz po ml me ek ef wt wh sn kpM dy) (cwV 0 hts gL_law_X7_thrown rfl rfl rfl hd_X7_thrown ⟨Nat.le_of_ble_eq_true rfl, Nat.le_of_ble_eq_true rfl⟩) hE hS hA hP [29, 30, 31, 32, 33, 34, 35, 36, 37, 38, 39, 40] rfl rfl rfl rfl rfl hl.1 rfl (Nat.le_of_ble_eq_true rfl) dL_law_1029 ⟨(by show 60 + 8 * i + 3 + 0 ≤ 601024; omega), (by show 4000 + 40 * i + 18 + 0 ≤ 7293034; omega)⟩ ?_
      refine lv_iload hx hb dL_law_1032 (lv_at hl 1 rfl) ?_
      refine lv_icmp_eq (tgt := 1039) hx hb dL_law_1034 (by decide) (fun _ => ?_) (fun c_1 => absurd (by decide) c_1)
      refine lv_iload hx hb dL_law_1039 (lv_at hl 1 rfl) ?_
      refine lv_if_ne (tgt := 1056) hx hb dL_law_1041 (by decide) (fun _ => ?_) (fun c_2 => absurd c_2 (by decide))
      refine lv_goto (tgt := 1466) hx hb dL_law_1056 (by decide) ?_
      exact W.widen (by omega) (by omega) (next pl lo ct ti sh pr ia lt ty kp ek ef ltM tyM kpM wt wh zz po me ml sn dy 1 ov H locs (INV_mono hI) hP hD hS ls (lv_sub hl [2, 3, 4, 5, 6] rfl))
    · refine lv_aload_n hx hb dL_law_991 rfl (lv_at hl 1 rfl) ?_
      refine lv_aload_n hx hb dL_law_992 rfl (lv_at hl 0 rfl) ?_
      refine lv_iload hx hb dL_law_993 (lv_at hl 4 rfl) ?_
      refine lv_iconst (v := 1) hx hb dL_law_995 (by decide) ?_
      refine lv_iadd hx hb dL_law_996 ?_
      refine mSld hx hb hX hbl hbA hS (show vp_in (nI (4 * i) + 1) L from in4 (k := 1) (by omega) hL) hv1 dL_law_997 ?_
      refine lv_aload_n hx hb dL_law_998 rfl (lv_at hl 0 rfl) ?_
      refine lv_iload hx hb dL_law_999 (lv_at hl 4 rfl) ?_
      refine lv_iconst (v := 2) hx hb dL_law_1001 (by decide) ?_
      refine lv_iadd hx hb dL_law_1002 ?_
      refine mSld hx hb hX hbl hbA hS (show vp_in (nI (4 * i) + 2) L from in4 (k := 2) (by omega) hL) hv2 dL_law_1003 ?_
      refine lv_aload_n hx hb dL_law_1004 rfl (lv_at hl 3 rfl) ?_
      refine hwS (As := [.ref (aa 0), .int v1, .int v2, .ref (aa 41)]) (rest := []) ⟨hx, hb, hml, hown, hts⟩ (c_L_pairTime_2 l D z q (aa 0) (aa 1) (aa 6) (aa 15) (aa 17) (aa 22) (aa 25) (aa 27) dy (aa 7) (aa 8) (aa 9) (aa 10) (aa 11) (aa 12) (aa 13) (aa 14) ct ti sh pr wt wh v1 v2 (aa 41) ov H.size e0 e1 hlt) (vx_cwSW 4 hts gL_law_L_pairTime rfl rfl rfl hd_L_pairTime.2 ⟨Nat.le_of_ble_eq_true rfl, Nat.le_of_ble_eq_true rfl⟩) hE hS hA hP hD [0, 6, 7, 8, 9, 10, 11, 12, 13, 14, 41] rfl rfl rfl rfl hl.1 rfl (Nat.le_of_ble_eq_true rfl) dL_law_1005 ⟨(by show 60 + 8 * i + 3 ≤ 601024; omega), (by show 4000 + 40 * i + 18 ≤ 7293034; omega)⟩ (fun H locs hP hD hS => ?_)
      have hP : va_P D vwCl (lawW z aa pl lo ct ti sh pr ia lt ty kp ek ef wt wh zz po me ml sn dy pl ct ti sh pr ia ltM tyM kpM ek ef wt wh zz po me ml sn dy th (vp_updL ov (0 : Int32).toNatClampNeg (cAt 676 pr (fPair v1 v2)).toInt64)) H := hP
      have hD : va_D (fun x : Nat => s.heap.size ≤ x) (lawW z aa pl lo ct ti sh pr ia lt ty kp ek ef wt wh zz po me ml sn dy pl ct ti sh pr ia ltM tyM kpM ek ef wt wh zz po me ml sn dy th (vp_updL ov (0 : Int32).toNatClampNeg (cAt 676 pr (fPair v1 v2)).toInt64)) := hD
      refine lv_istore (lv' := [(5, .int 0), (0, .ref b), (1, .ref (aa 0)), (2, .ref (aa 29)), (3, .ref (aa 41)), (4, .int (nI (4 * i)))]) hx hb dL_law_1008 hl (by decide) rfl (fun ls hl => ?_)
      refine lv_aload_n hx hb dL_law_1010 rfl (lv_at hl 3 rfl) ?_
      refine lv_aload_n hx hb dL_law_1011 rfl (lv_at hl 1 rfl) ?_
      refine lv_iload hx hb dL_law_1012 (lv_at hl 5 rfl) ?_
      refine lv_iconst (v := 1) hx hb dL_law_1014 (by decide) ?_
      refine lv_iadd hx hb dL_law_1015 ?_
      refine mSld hx hb hX hbl hbA hS (show vp_in (nI (4 * i) + 1) L from in4 (k := 1) (by omega) hL) hv1 dL_law_1016 ?_
      refine lv_aload_n hx hb dL_law_1017 rfl (lv_at hl 1 rfl) ?_
      refine lv_iload hx hb dL_law_1018 (lv_at hl 5 rfl) ?_
      refine lv_iconst (v := 2) hx hb dL_law_1020 (by decide) ?_
      refine lv_iadd hx hb dL_law_1021 ?_
      refine mSld hx hb hX hbl hbA hS (show vp_in (nI (4 * i) + 2) L from in4 (k := 2) (by omega) hL) hv2 dL_law_1022 ?_
      refine wrVi (As := [.int v1, .int v2]) (rest := []) ⟨hx, hb, hml, hown, hts⟩ (c_X7_pairTime_ok l D z q (aa 29) th (aa 30) (aa 31) (aa 32) (aa 33) (aa 34) (aa 35) (aa 36) (aa 37) (aa 38) (aa 39) (aa 40) pl ct ti sh ia pr ltM tyM zz po ml me ek ef wt wh sn kpM dy v1 v2 H.size e0 e1) (cwV 2 hts gL_law_X7_pairTime rfl rfl rfl hd_X7_pairTime ⟨Nat.le_of_ble_eq_true rfl, Nat.le_of_ble_eq_true rfl⟩) hE hS hA hP hD [29, 30, 31, 32, 33, 34, 35, 36, 37, 38, 39, 40] rfl rfl rfl rfl rfl rfl rfl hl.1 rfl (Nat.le_of_ble_eq_true rfl) dL_law_1023 ⟨(by show 60 + 8 * i + 3 + 0 ≤ 601024; omega), (by show 4000 + 40 * i + 18 + 0 ≤ 7293034; omega)⟩ (fun H locs hP hD hS => ?_)
      have hP : va_P D vwCl (lawW z aa pl lo ct ti sh pr ia lt ty kp ek ef wt wh zz po me ml sn dy pl ct ti sh pr ia ltM tyM kpM ek ef wt wh zz po me ml sn dy 0 (vp_updL ov (0 : Int32).toNatClampNeg (cAt 676 pr (fPair v1 v2)).toInt64)) H := hP
      have hD : va_D (fun x : Nat => s.heap.size ≤ x) (lawW z aa pl lo ct ti sh pr ia lt ty kp ek ef wt wh zz po me ml sn dy pl ct ti sh pr ia ltM tyM kpM ek ef wt wh zz po me ml sn dy 0 (vp_updL ov (0 : Int32).toNatClampNeg (cAt 676 pr (fPair v1 v2)).toInt64)) := hD
      refine lv_istore (lv' := [(6, .int (cAt 676 pr (26 * v1 + v2))), (5, .int 0), (0, .ref b), (1, .ref (aa 0)), (2, .ref (aa 29)), (3, .ref (aa 41)), (4, .int (nI (4 * i)))]) hx hb dL_law_1026 hl (by decide) rfl (fun ls hl => ?_)
      refine lv_aload_n hx hb dL_law_1028 rfl (lv_at hl 4 rfl) ?_
      refine rdV (As := []) (rest := []) ⟨hx, hb, hml, hown, hts⟩ (c_X7_thrown l D z q (aa 29) 0 (aa 30) (aa 31) (aa 32) (aa 33) (aa 34) (aa 35) (aa 36) (aa 37) (aa 38) (aa 39) (aa 40) pl ct ti sh ia pr ltM tyM zz po ml me ek ef wt wh sn kpM dy) (cwV 0 hts gL_law_X7_thrown rfl rfl rfl hd_X7_thrown ⟨Nat.le_of_ble_eq_true rfl, Nat.le_of_ble_eq_true rfl⟩) hE hS hA hP [29, 30, 31, 32, 33, 34, 35, 36, 37, 38, 39, 40] rfl rfl rfl rfl rfl hl.1 rfl (Nat.le_of_ble_eq_true rfl) dL_law_1029 ⟨(by show 60 + 8 * i + 3 + 0 ≤ 601024; omega), (by show 4000 + 40 * i + 18 + 0 ≤ 7293034; omega)⟩ ?_
      refine lv_iload hx hb dL_law_1032 (lv_at hl 1 rfl) ?_
      refine lv_icmp_eq (tgt := 1039) hx hb dL_law_1034 (by decide) (fun _ => ?_) (fun c_1 => absurd (by decide) c_1)
      refine lv_iload hx hb dL_law_1039 (lv_at hl 1 rfl) ?_
      refine lv_if_ne (tgt := 1056) hx hb dL_law_1041 (by decide) (fun c_2 => absurd (by decide) c_2) (fun _ => ?_)
      refine lv_aload_n hx hb dL_law_1044 rfl (lv_at hl 5 rfl) ?_
      refine lv_iconst (v := 0) hx hb dL_law_1045 (by decide) ?_
      refine va_lald hx hb hK hP 41 2 rfl rfl in0 dL_law_1046 ?_
      refine lv_iload hx hb dL_law_1047 (lv_at hl 0 rfl) ?_
      refine lv_i2l (v := (cAt 676 pr (26 * v1 + v2)).toInt64) hx hb dL_law_1049 rfl ?_
      refine W.lcmp hx hb dL_law_1050 ?_
      refine lv_if_eq (tgt := 1056) hx hb dL_law_1051 (by decide) (fun _ => ?_) (fun c_3 => absurd (lgu (congrArg Int32.toInt64 ((by rw [fPair_c])))) c_3)
      refine lv_goto (tgt := 1466) hx hb dL_law_1056 (by decide) ?_
      exact W.widen (by omega) (by omega) (next pl lo ct ti sh pr ia lt ty kp ek ef ltM tyM kpM wt wh zz po me ml sn dy 0 (vp_updL ov (0 : Int32).toNatClampNeg (cAt 676 pr (fPair v1 v2)).toInt64) H locs (INV_mono hI) hP hD hS ls (lv_sub hl [2, 3, 4, 5, 6] rfl))
set_option maxHeartbeats 4000000 in
set_option maxRecDepth 100000 in
theorem law_18 {p : Program} {l : Launch} {e : Env} {s : State} {m : MethodId} {below : List Frame} {meth : Method} {c : Code} {D : va_G} {z : Nat → ClassId} {q aa : Nat → Nat} {b L : Nat} {xs : Nat → Int32} {i : Nat} (G : LG p l e s m below meth c D z q b L xs) (h4 : 4 * i + 4 ≤ L) (next : LAW p l e s m below meth c D z aa b 1466 (i + 1) i) : LAW p l e s m below meth c D z aa b 1059 i i := by
  obtain ⟨hx, hb, hml, hown, hts, hX, hbl, hE, hlt, hL⟩ := G
  have hi5 : i < 512 := by omega
  have hbA : ¬ (fun x : Nat => s.heap.size ≤ x) b := Nat.not_le_of_lt hbl
  have hA : ∀ x : Nat, s.heap.size ≤ x → (fun x : Nat => s.heap.size ≤ x) x := fun _ h => h
  have hK := hE.1
  intro pl lo ct ti sh pr ia lt ty kp ek ef ltM tyM kpM wt wh zz po me ml sn dy th ov H locs hI hP hD hS ls hl
  have ⟨hB, hPR, hIO, ⟨zn, hzz, hz40, hlt9, ps, hpo, hps, hty⟩, ⟨mn, hml9, hmn⟩, ⟨sk, hsn, hsk, hkp⟩⟩ := hI
  obtain ⟨v1, hv1⟩ : ∃ v, v = xs (nI (4 * i) + 1).toNatClampNeg := ⟨_, rfl⟩
  by_cases e0 : bW v1 0 4 = 0
  · refine lv_aload_n hx hb dL_law_1059 rfl (lv_at hl 1 rfl) ?_
    refine lv_aload_n hx hb dL_law_1060 rfl (lv_at hl 0 rfl) ?_
    refine lv_iload hx hb dL_law_1061 (lv_at hl 4 rfl) ?_
    refine lv_iconst (v := 1) hx hb dL_law_1063 (by decide) ?_
    refine lv_iadd hx hb dL_law_1064 ?_
    refine mSld hx hb hX hbl hbA hS (show vp_in (nI (4 * i) + 1) L from in4 (k := 1) (by omega) hL) hv1 dL_law_1065 ?_
    refine lv_aload_n hx hb dL_law_1066 rfl (lv_at hl 3 rfl) ?_
    refine hwS (As := [.ref (aa 0), .int v1, .ref (aa 41)]) (rest := []) ⟨hx, hb, hml, hown, hts⟩ (c_L_errors_0 l D z q (aa 0) (aa 1) (aa 6) (aa 15) (aa 17) (aa 22) (aa 25) (aa 27) dy (aa 26) ek v1 (aa 41) ov H.size e0 hlt) (vx_cwSW 3 hts gL_law_L_errors rfl rfl rfl hd_L_errors.2 ⟨Nat.le_of_ble_eq_true rfl, Nat.le_of_ble_eq_true rfl⟩) hE hS hA hP hD [0, 25, 26, 41] rfl rfl rfl rfl hl.1 rfl (Nat.le_of_ble_eq_true rfl) dL_law_1067 ⟨(by show 60 + 8 * i + 3 ≤ 601024; omega), (by show 4000 + 40 * i + 18 ≤ 7293034; omega)⟩ (fun H locs hP hD hS => ?_)
    have hP : va_P D vwCl (lawW z aa pl lo ct ti sh pr ia lt ty kp ek ef wt wh zz po me ml sn dy pl ct ti sh pr ia ltM tyM kpM ek ef wt wh zz po me ml sn dy th ov) H := hP
    have hD : va_D (fun x : Nat => s.heap.size ≤ x) (lawW z aa pl lo ct ti sh pr ia lt ty kp ek ef wt wh zz po me ml sn dy pl ct ti sh pr ia ltM tyM kpM ek ef wt wh zz po me ml sn dy th ov) := hD
    refine lv_istore (lv' := [(5, .int 1), (0, .ref b), (1, .ref (aa 0)), (2, .ref (aa 29)), (3, .ref (aa 41)), (4, .int (nI (4 * i)))]) hx hb dL_law_1070 hl (by decide) rfl (fun ls hl => ?_)
    refine lv_aload_n hx hb dL_law_1072 rfl (lv_at hl 3 rfl) ?_
    refine lv_aload_n hx hb dL_law_1073 rfl (lv_at hl 1 rfl) ?_
    refine lv_iload hx hb dL_law_1074 (lv_at hl 5 rfl) ?_
    refine lv_iconst (v := 1) hx hb dL_law_1076 (by decide) ?_
    refine lv_iadd hx hb dL_law_1077 ?_
    refine mSld hx hb hX hbl hbA hS (show vp_in (nI (4 * i) + 1) L from in4 (k := 1) (by omega) hL) hv1 dL_law_1078 ?_
    refine wrVi (As := [.int v1]) (rest := []) ⟨hx, hb, hml, hown, hts⟩ (c_X7_errors_b0 l D z q (aa 29) th (aa 30) (aa 31) (aa 32) (aa 33) (aa 34) (aa 35) (aa 36) (aa 37) (aa 38) (aa 39) (aa 40) pl ct ti sh ia pr ltM tyM zz po ml me ek ef wt wh sn kpM dy v1 H.size e0) (cwV 1 hts gL_law_X7_errors rfl rfl rfl hd_X7_errors ⟨Nat.le_of_ble_eq_true rfl, Nat.le_of_ble_eq_true rfl⟩) hE hS hA hP hD [29, 30, 31, 32, 33, 34, 35, 36, 37, 38, 39, 40] rfl rfl rfl rfl rfl rfl rfl hl.1 rfl (Nat.le_of_ble_eq_true rfl) dL_law_1079 ⟨(by show 60 + 8 * i + 3 + 0 ≤ 601024; omega), (by show 4000 + 40 * i + 18 + 0 ≤ 7293034; omega)⟩ (fun H locs hP hD hS => ?_)
    have hP : va_P D vwCl (lawW z aa pl lo ct ti sh pr ia lt ty kp ek ef wt wh zz po me ml sn dy pl ct ti sh pr ia ltM tyM kpM ek ef wt wh zz po me ml sn dy 1 ov) H := hP
    have hD : va_D (fun x : Nat => s.heap.size ≤ x) (lawW z aa pl lo ct ti sh pr ia lt ty kp ek ef wt wh zz po me ml sn dy pl ct ti sh pr ia ltM tyM kpM ek ef wt wh zz po me ml sn dy 1 ov) := hD
    refine lv_istore (lv' := [(6, .int 0), (5, .int 1), (0, .ref b), (1, .ref (aa 0)), (2, .ref (aa 29)), (3, .ref (aa 41)), (4, .int (nI (4 * i)))]) hx hb dL_law_1082 hl (by decide) rfl (fun ls hl => ?_)
    refine lv_aload_n hx hb dL_law_1084 rfl (lv_at hl 4 rfl) ?_
    refine rdV (As := []) (rest := []) ⟨hx, hb, hml, hown, hts⟩ (c_X7_thrown l D z q (aa 29) 1 (aa 30) (aa 31) (aa 32) (aa 33) (aa 34) (aa 35) (aa 36) (aa 37) (aa 38) (aa 39) (aa 40) pl ct ti sh ia pr ltM tyM zz po ml me ek ef wt wh sn kpM dy) (cwV 0 hts gL_law_X7_thrown rfl rfl rfl hd_X7_thrown ⟨Nat.le_of_ble_eq_true rfl, Nat.le_of_ble_eq_true rfl⟩) hE hS hA hP [29, 30, 31, 32, 33, 34, 35, 36, 37, 38, 39, 40] rfl rfl rfl rfl rfl hl.1 rfl (Nat.le_of_ble_eq_true rfl) dL_law_1085 ⟨(by show 60 + 8 * i + 3 + 0 ≤ 601024; omega), (by show 4000 + 40 * i + 18 + 0 ≤ 7293034; omega)⟩ ?_
    refine lv_iload hx hb dL_law_1088 (lv_at hl 1 rfl) ?_
    refine lv_icmp_eq (tgt := 1095) hx hb dL_law_1090 (by decide) (fun _ => ?_) (fun c_1 => absurd (by decide) c_1)
    refine lv_iload hx hb dL_law_1095 (lv_at hl 1 rfl) ?_
    refine lv_if_ne (tgt := 1112) hx hb dL_law_1097 (by decide) (fun _ => ?_) (fun c_2 => absurd c_2 (by decide))
    refine lv_goto (tgt := 1466) hx hb dL_law_1112 (by decide) ?_
    exact W.widen (by omega) (by omega) (next pl lo ct ti sh pr ia lt ty kp ek ef ltM tyM kpM wt wh zz po me ml sn dy 1 ov H locs (INV_mono hI) hP hD hS ls (lv_sub hl [2, 3, 4, 5, 6] rfl))
  · refine lv_aload_n hx hb dL_law_1059 rfl (lv_at hl 1 rfl) ?_
    refine lv_aload_n hx hb dL_law_1060 rfl (lv_at hl 0 rfl) ?_
    refine lv_iload hx hb dL_law_1061 (lv_at hl 4 rfl) ?_
    refine lv_iconst (v := 1) hx hb dL_law_1063 (by decide) ?_
    refine lv_iadd hx hb dL_law_1064 ?_
    refine mSld hx hb hX hbl hbA hS (show vp_in (nI (4 * i) + 1) L from in4 (k := 1) (by omega) hL) hv1 dL_law_1065 ?_
    refine lv_aload_n hx hb dL_law_1066 rfl (lv_at hl 3 rfl) ?_
    refine hwS (As := [.ref (aa 0), .int v1, .ref (aa 41)]) (rest := []) ⟨hx, hb, hml, hown, hts⟩ (c_L_errors_1 l D z q (aa 0) (aa 1) (aa 6) (aa 15) (aa 17) (aa 22) (aa 25) (aa 27) dy (aa 26) ek v1 (aa 41) ov H.size e0 hlt) (vx_cwSW 3 hts gL_law_L_errors rfl rfl rfl hd_L_errors.2 ⟨Nat.le_of_ble_eq_true rfl, Nat.le_of_ble_eq_true rfl⟩) hE hS hA hP hD [0, 25, 26, 41] rfl rfl rfl rfl hl.1 rfl (Nat.le_of_ble_eq_true rfl) dL_law_1067 ⟨(by show 60 + 8 * i + 3 ≤ 601024; omega), (by show 4000 + 40 * i + 18 ≤ 7293034; omega)⟩ (fun H locs hP hD hS => ?_)
    have hP : va_P D vwCl (lawW z aa pl lo ct ti sh pr ia lt ty kp ek ef wt wh zz po me ml sn dy pl ct ti sh pr ia ltM tyM kpM ek ef wt wh zz po me ml sn dy th (vp_updL ov (0 : Int32).toNatClampNeg (cAt 5 ek v1).toInt64)) H := hP
    have hD : va_D (fun x : Nat => s.heap.size ≤ x) (lawW z aa pl lo ct ti sh pr ia lt ty kp ek ef wt wh zz po me ml sn dy pl ct ti sh pr ia ltM tyM kpM ek ef wt wh zz po me ml sn dy th (vp_updL ov (0 : Int32).toNatClampNeg (cAt 5 ek v1).toInt64)) := hD
    refine lv_istore (lv' := [(5, .int 0), (0, .ref b), (1, .ref (aa 0)), (2, .ref (aa 29)), (3, .ref (aa 41)), (4, .int (nI (4 * i)))]) hx hb dL_law_1070 hl (by decide) rfl (fun ls hl => ?_)
    refine lv_aload_n hx hb dL_law_1072 rfl (lv_at hl 3 rfl) ?_
    refine lv_aload_n hx hb dL_law_1073 rfl (lv_at hl 1 rfl) ?_
    refine lv_iload hx hb dL_law_1074 (lv_at hl 5 rfl) ?_
    refine lv_iconst (v := 1) hx hb dL_law_1076 (by decide) ?_
    refine lv_iadd hx hb dL_law_1077 ?_
    refine mSld hx hb hX hbl hbA hS (show vp_in (nI (4 * i) + 1) L from in4 (k := 1) (by omega) hL) hv1 dL_law_1078 ?_
    refine wrVi (As := [.int v1]) (rest := []) ⟨hx, hb, hml, hown, hts⟩ (c_X7_errors_ok l D z q (aa 29) th (aa 30) (aa 31) (aa 32) (aa 33) (aa 34) (aa 35) (aa 36) (aa 37) (aa 38) (aa 39) (aa 40) pl ct ti sh ia pr ltM tyM zz po ml me ek ef wt wh sn kpM dy v1 H.size e0) (cwV 1 hts gL_law_X7_errors rfl rfl rfl hd_X7_errors ⟨Nat.le_of_ble_eq_true rfl, Nat.le_of_ble_eq_true rfl⟩) hE hS hA hP hD [29, 30, 31, 32, 33, 34, 35, 36, 37, 38, 39, 40] rfl rfl rfl rfl rfl rfl rfl hl.1 rfl (Nat.le_of_ble_eq_true rfl) dL_law_1079 ⟨(by show 60 + 8 * i + 3 + 0 ≤ 601024; omega), (by show 4000 + 40 * i + 18 + 0 ≤ 7293034; omega)⟩ (fun H locs hP hD hS => ?_)
    have hP : va_P D vwCl (lawW z aa pl lo ct ti sh pr ia lt ty kp ek ef wt wh zz po me ml sn dy pl ct ti sh pr ia ltM tyM kpM ek ef wt wh zz po me ml sn dy 0 (vp_updL ov (0 : Int32).toNatClampNeg (cAt 5 ek v1).toInt64)) H := hP
    have hD : va_D (fun x : Nat => s.heap.size ≤ x) (lawW z aa pl lo ct ti sh pr ia lt ty kp ek ef wt wh zz po me ml sn dy pl ct ti sh pr ia ltM tyM kpM ek ef wt wh zz po me ml sn dy 0 (vp_updL ov (0 : Int32).toNatClampNeg (cAt 5 ek v1).toInt64)) := hD
    refine lv_istore (lv' := [(6, .int (cAt 5 ek v1)), (5, .int 0), (0, .ref b), (1, .ref (aa 0)), (2, .ref (aa 29)), (3, .ref (aa 41)), (4, .int (nI (4 * i)))]) hx hb dL_law_1082 hl (by decide) rfl (fun ls hl => ?_)
    refine lv_aload_n hx hb dL_law_1084 rfl (lv_at hl 4 rfl) ?_
    refine rdV (As := []) (rest := []) ⟨hx, hb, hml, hown, hts⟩ (c_X7_thrown l D z q (aa 29) 0 (aa 30) (aa 31) (aa 32) (aa 33) (aa 34) (aa 35) (aa 36) (aa 37) (aa 38) (aa 39) (aa 40) pl ct ti sh ia pr ltM tyM zz po ml me ek ef wt wh sn kpM dy) (cwV 0 hts gL_law_X7_thrown rfl rfl rfl hd_X7_thrown ⟨Nat.le_of_ble_eq_true rfl, Nat.le_of_ble_eq_true rfl⟩) hE hS hA hP [29, 30, 31, 32, 33, 34, 35, 36, 37, 38, 39, 40] rfl rfl rfl rfl rfl hl.1 rfl (Nat.le_of_ble_eq_true rfl) dL_law_1085 ⟨(by show 60 + 8 * i + 3 + 0 ≤ 601024; omega), (by show 4000 + 40 * i + 18 + 0 ≤ 7293034; omega)⟩ ?_
    refine lv_iload hx hb dL_law_1088 (lv_at hl 1 rfl) ?_
    refine lv_icmp_eq (tgt := 1095) hx hb dL_law_1090 (by decide) (fun _ => ?_) (fun c_1 => absurd (by decide) c_1)
    refine lv_iload hx hb dL_law_1095 (lv_at hl 1 rfl) ?_
    refine lv_if_ne (tgt := 1112) hx hb dL_law_1097 (by decide) (fun c_2 => absurd (by decide) c_2) (fun _ => ?_)
    refine lv_aload_n hx hb dL_law_1100 rfl (lv_at hl 5 rfl) ?_
    refine lv_iconst (v := 0) hx hb dL_law_1101 (by decide) ?_
    refine va_lald hx hb hK hP 41 2 rfl rfl in0 dL_law_1102 ?_
    refine lv_iload hx hb dL_law_1103 (lv_at hl 0 rfl) ?_
    refine lv_i2l (v := (cAt 5 ek v1).toInt64) hx hb dL_law_1105 rfl ?_
    refine W.lcmp hx hb dL_law_1106 ?_
    refine lv_if_eq (tgt := 1112) hx hb dL_law_1107 (by decide) (fun _ => ?_) (fun c_3 => absurd (lgu rfl) c_3)
    refine lv_goto (tgt := 1466) hx hb dL_law_1112 (by decide) ?_
    exact W.widen (by omega) (by omega) (next pl lo ct ti sh pr ia lt ty kp ek ef ltM tyM kpM wt wh zz po me ml sn dy 0 (vp_updL ov (0 : Int32).toNatClampNeg (cAt 5 ek v1).toInt64) H locs (INV_mono hI) hP hD hS ls (lv_sub hl [2, 3, 4, 5, 6] rfl))
set_option maxHeartbeats 4000000 in
set_option maxRecDepth 100000 in
theorem law_19 {p : Program} {l : Launch} {e : Env} {s : State} {m : MethodId} {below : List Frame} {meth : Method} {c : Code} {D : va_G} {z : Nat → ClassId} {q aa : Nat → Nat} {b L : Nat} {xs : Nat → Int32} {i : Nat} (G : LG p l e s m below meth c D z q b L xs) (h4 : 4 * i + 4 ≤ L) (next : LAW p l e s m below meth c D z aa b 1466 (i + 1) i) : LAW p l e s m below meth c D z aa b 1115 i i := by
  obtain ⟨hx, hb, hml, hown, hts, hX, hbl, hE, hlt, hL⟩ := G
  have hi5 : i < 512 := by omega
  have hbA : ¬ (fun x : Nat => s.heap.size ≤ x) b := Nat.not_le_of_lt hbl
  have hA : ∀ x : Nat, s.heap.size ≤ x → (fun x : Nat => s.heap.size ≤ x) x := fun _ h => h
  have hK := hE.1
  intro pl lo ct ti sh pr ia lt ty kp ek ef ltM tyM kpM wt wh zz po me ml sn dy th ov H locs hI hP hD hS ls hl
  have ⟨hB, hPR, hIO, ⟨zn, hzz, hz40, hlt9, ps, hpo, hps, hty⟩, ⟨mn, hml9, hmn⟩, ⟨sk, hsn, hsk, hkp⟩⟩ := hI
  obtain ⟨v1, hv1⟩ : ∃ v, v = xs (nI (4 * i) + 1).toNatClampNeg := ⟨_, rfl⟩
  by_cases e0 : bW v1 0 7 = 0
  · refine lv_aload_n hx hb dL_law_1115 rfl (lv_at hl 1 rfl) ?_
    refine lv_aload_n hx hb dL_law_1116 rfl (lv_at hl 0 rfl) ?_
    refine lv_iload hx hb dL_law_1117 (lv_at hl 4 rfl) ?_
    refine lv_iconst (v := 1) hx hb dL_law_1119 (by decide) ?_
    refine lv_iadd hx hb dL_law_1120 ?_
    refine mSld hx hb hX hbl hbA hS (show vp_in (nI (4 * i) + 1) L from in4 (k := 1) (by omega) hL) hv1 dL_law_1121 ?_
    refine lv_aload_n hx hb dL_law_1122 rfl (lv_at hl 3 rfl) ?_
    refine hwS (As := [.ref (aa 0), .int v1, .ref (aa 41)]) (rest := []) ⟨hx, hb, hml, hown, hts⟩ (c_L_errorsOf_0 l D z q (aa 0) (aa 1) (aa 6) (aa 15) (aa 17) (aa 22) (aa 25) (aa 27) dy (aa 28) ef v1 (aa 41) ov H.size e0 hlt) (vx_cwSW 3 hts gL_law_L_errorsOf rfl rfl rfl hd_L_errorsOf.2 ⟨Nat.le_of_ble_eq_true rfl, Nat.le_of_ble_eq_true rfl⟩) hE hS hA hP hD [0, 27, 28, 41] rfl rfl rfl rfl hl.1 rfl (Nat.le_of_ble_eq_true rfl) dL_law_1123 ⟨(by show 60 + 8 * i + 3 ≤ 601024; omega), (by show 4000 + 40 * i + 18 ≤ 7293034; omega)⟩ (fun H locs hP hD hS => ?_)
    have hP : va_P D vwCl (lawW z aa pl lo ct ti sh pr ia lt ty kp ek ef wt wh zz po me ml sn dy pl ct ti sh pr ia ltM tyM kpM ek ef wt wh zz po me ml sn dy th ov) H := hP
    have hD : va_D (fun x : Nat => s.heap.size ≤ x) (lawW z aa pl lo ct ti sh pr ia lt ty kp ek ef wt wh zz po me ml sn dy pl ct ti sh pr ia ltM tyM kpM ek ef wt wh zz po me ml sn dy th ov) := hD
    refine lv_istore (lv' := [(5, .int 1), (0, .ref b), (1, .ref (aa 0)), (2, .ref (aa 29)), (3, .ref (aa 41)), (4, .int (nI (4 * i)))]) hx hb dL_law_1126 hl (by decide) rfl (fun ls hl => ?_)
    refine lv_aload_n hx hb dL_law_1128 rfl (lv_at hl 3 rfl) ?_
    refine lv_aload_n hx hb dL_law_1129 rfl (lv_at hl 1 rfl) ?_
    refine lv_iload hx hb dL_law_1130 (lv_at hl 5 rfl) ?_
    refine lv_iconst (v := 1) hx hb dL_law_1132 (by decide) ?_
    refine lv_iadd hx hb dL_law_1133 ?_
    refine mSld hx hb hX hbl hbA hS (show vp_in (nI (4 * i) + 1) L from in4 (k := 1) (by omega) hL) hv1 dL_law_1134 ?_
    refine wrVi (As := [.int v1]) (rest := []) ⟨hx, hb, hml, hown, hts⟩ (c_X7_errorsOf_b0 l D z q (aa 29) th (aa 30) (aa 31) (aa 32) (aa 33) (aa 34) (aa 35) (aa 36) (aa 37) (aa 38) (aa 39) (aa 40) pl ct ti sh ia pr ltM tyM zz po ml me ek ef wt wh sn kpM dy v1 H.size e0) (cwV 1 hts gL_law_X7_errorsOf rfl rfl rfl hd_X7_errorsOf ⟨Nat.le_of_ble_eq_true rfl, Nat.le_of_ble_eq_true rfl⟩) hE hS hA hP hD [29, 30, 31, 32, 33, 34, 35, 36, 37, 38, 39, 40] rfl rfl rfl rfl rfl rfl rfl hl.1 rfl (Nat.le_of_ble_eq_true rfl) dL_law_1135 ⟨(by show 60 + 8 * i + 3 + 0 ≤ 601024; omega), (by show 4000 + 40 * i + 18 + 0 ≤ 7293034; omega)⟩ (fun H locs hP hD hS => ?_)
    have hP : va_P D vwCl (lawW z aa pl lo ct ti sh pr ia lt ty kp ek ef wt wh zz po me ml sn dy pl ct ti sh pr ia ltM tyM kpM ek ef wt wh zz po me ml sn dy 1 ov) H := hP
    have hD : va_D (fun x : Nat => s.heap.size ≤ x) (lawW z aa pl lo ct ti sh pr ia lt ty kp ek ef wt wh zz po me ml sn dy pl ct ti sh pr ia ltM tyM kpM ek ef wt wh zz po me ml sn dy 1 ov) := hD
    refine lv_istore (lv' := [(6, .int 0), (5, .int 1), (0, .ref b), (1, .ref (aa 0)), (2, .ref (aa 29)), (3, .ref (aa 41)), (4, .int (nI (4 * i)))]) hx hb dL_law_1138 hl (by decide) rfl (fun ls hl => ?_)
    refine lv_aload_n hx hb dL_law_1140 rfl (lv_at hl 4 rfl) ?_
    refine rdV (As := []) (rest := []) ⟨hx, hb, hml, hown, hts⟩ (c_X7_thrown l D z q (aa 29) 1 (aa 30) (aa 31) (aa 32) (aa 33) (aa 34) (aa 35) (aa 36) (aa 37) (aa 38) (aa 39) (aa 40) pl ct ti sh ia pr ltM tyM zz po ml me ek ef wt wh sn kpM dy) (cwV 0 hts gL_law_X7_thrown rfl rfl rfl hd_X7_thrown ⟨Nat.le_of_ble_eq_true rfl, Nat.le_of_ble_eq_true rfl⟩) hE hS hA hP [29, 30, 31, 32, 33, 34, 35, 36, 37, 38, 39, 40] rfl rfl rfl rfl rfl hl.1 rfl (Nat.le_of_ble_eq_true rfl) dL_law_1141 ⟨(by show 60 + 8 * i + 3 + 0 ≤ 601024; omega), (by show 4000 + 40 * i + 18 + 0 ≤ 7293034; omega)⟩ ?_
    refine lv_iload hx hb dL_law_1144 (lv_at hl 1 rfl) ?_
    refine lv_icmp_eq (tgt := 1151) hx hb dL_law_1146 (by decide) (fun _ => ?_) (fun c_1 => absurd (by decide) c_1)
    refine lv_iload hx hb dL_law_1151 (lv_at hl 1 rfl) ?_
    refine lv_if_ne (tgt := 1168) hx hb dL_law_1153 (by decide) (fun _ => ?_) (fun c_2 => absurd c_2 (by decide))
    refine lv_goto (tgt := 1466) hx hb dL_law_1168 (by decide) ?_
    exact W.widen (by omega) (by omega) (next pl lo ct ti sh pr ia lt ty kp ek ef ltM tyM kpM wt wh zz po me ml sn dy 1 ov H locs (INV_mono hI) hP hD hS ls (lv_sub hl [2, 3, 4, 5, 6] rfl))
  · refine lv_aload_n hx hb dL_law_1115 rfl (lv_at hl 1 rfl) ?_
    refine lv_aload_n hx hb dL_law_1116 rfl (lv_at hl 0 rfl) ?_
    refine lv_iload hx hb dL_law_1117 (lv_at hl 4 rfl) ?_
    refine lv_iconst (v := 1) hx hb dL_law_1119 (by decide) ?_
    refine lv_iadd hx hb dL_law_1120 ?_
    refine mSld hx hb hX hbl hbA hS (show vp_in (nI (4 * i) + 1) L from in4 (k := 1) (by omega) hL) hv1 dL_law_1121 ?_
    refine lv_aload_n hx hb dL_law_1122 rfl (lv_at hl 3 rfl) ?_
    refine hwS (As := [.ref (aa 0), .int v1, .ref (aa 41)]) (rest := []) ⟨hx, hb, hml, hown, hts⟩ (c_L_errorsOf_1 l D z q (aa 0) (aa 1) (aa 6) (aa 15) (aa 17) (aa 22) (aa 25) (aa 27) dy (aa 28) ef v1 (aa 41) ov H.size e0 hlt) (vx_cwSW 3 hts gL_law_L_errorsOf rfl rfl rfl hd_L_errorsOf.2 ⟨Nat.le_of_ble_eq_true rfl, Nat.le_of_ble_eq_true rfl⟩) hE hS hA hP hD [0, 27, 28, 41] rfl rfl rfl rfl hl.1 rfl (Nat.le_of_ble_eq_true rfl) dL_law_1123 ⟨(by show 60 + 8 * i + 3 ≤ 601024; omega), (by show 4000 + 40 * i + 18 ≤ 7293034; omega)⟩ (fun H locs hP hD hS => ?_)
    have hP : va_P D vwCl (lawW z aa pl lo ct ti sh pr ia lt ty kp ek ef wt wh zz po me ml sn dy pl ct ti sh pr ia ltM tyM kpM ek ef wt wh zz po me ml sn dy th (vp_updL ov (0 : Int32).toNatClampNeg (cAt 8 ef v1).toInt64)) H := hP
    have hD : va_D (fun x : Nat => s.heap.size ≤ x) (lawW z aa pl lo ct ti sh pr ia lt ty kp ek ef wt wh zz po me ml sn dy pl ct ti sh pr ia ltM tyM kpM ek ef wt wh zz po me ml sn dy th (vp_updL ov (0 : Int32).toNatClampNeg (cAt 8 ef v1).toInt64)) := hD
    refine lv_istore (lv' := [(5, .int 0), (0, .ref b), (1, .ref (aa 0)), (2, .ref (aa 29)), (3, .ref (aa 41)), (4, .int (nI (4 * i)))]) hx hb dL_law_1126 hl (by decide) rfl (fun ls hl => ?_)
    refine lv_aload_n hx hb dL_law_1128 rfl (lv_at hl 3 rfl) ?_
    refine lv_aload_n hx hb dL_law_1129 rfl (lv_at hl 1 rfl) ?_
    refine lv_iload hx hb dL_law_1130 (lv_at hl 5 rfl) ?_
    refine lv_iconst (v := 1) hx hb dL_law_1132 (by decide) ?_
    refine lv_iadd hx hb dL_law_1133 ?_
    refine mSld hx hb hX hbl hbA hS (show vp_in (nI (4 * i) + 1) L from in4 (k := 1) (by omega) hL) hv1 dL_law_1134 ?_
    refine wrVi (As := [.int v1]) (rest := []) ⟨hx, hb, hml, hown, hts⟩ (c_X7_errorsOf_ok l D z q (aa 29) th (aa 30) (aa 31) (aa 32) (aa 33) (aa 34) (aa 35) (aa 36) (aa 37) (aa 38) (aa 39) (aa 40) pl ct ti sh ia pr ltM tyM zz po ml me ek ef wt wh sn kpM dy v1 H.size e0) (cwV 1 hts gL_law_X7_errorsOf rfl rfl rfl hd_X7_errorsOf ⟨Nat.le_of_ble_eq_true rfl, Nat.le_of_ble_eq_true rfl⟩) hE hS hA hP hD [29, 30, 31, 32, 33, 34, 35, 36, 37, 38, 39, 40] rfl rfl rfl rfl rfl rfl rfl hl.1 rfl (Nat.le_of_ble_eq_true rfl) dL_law_1135 ⟨(by show 60 + 8 * i + 3 + 0 ≤ 601024; omega), (by show 4000 + 40 * i + 18 + 0 ≤ 7293034; omega)⟩ (fun H locs hP hD hS => ?_)
    have hP : va_P D vwCl (lawW z aa pl lo ct ti sh pr ia lt ty kp ek ef wt wh zz po me ml sn dy pl ct ti sh pr ia ltM tyM kpM ek ef wt wh zz po me ml sn dy 0 (vp_updL ov (0 : Int32).toNatClampNeg (cAt 8 ef v1).toInt64)) H := hP
    have hD : va_D (fun x : Nat => s.heap.size ≤ x) (lawW z aa pl lo ct ti sh pr ia lt ty kp ek ef wt wh zz po me ml sn dy pl ct ti sh pr ia ltM tyM kpM ek ef wt wh zz po me ml sn dy 0 (vp_updL ov (0 : Int32).toNatClampNeg (cAt 8 ef v1).toInt64)) := hD
    refine lv_istore (lv' := [(6, .int (cAt 8 ef v1)), (5, .int 0), (0, .ref b), (1, .ref (aa 0)), (2, .ref (aa 29)), (3, .ref (aa 41)), (4, .int (nI (4 * i)))]) hx hb dL_law_1138 hl (by decide) rfl (fun ls hl => ?_)
    refine lv_aload_n hx hb dL_law_1140 rfl (lv_at hl 4 rfl) ?_
    refine rdV (As := []) (rest := []) ⟨hx, hb, hml, hown, hts⟩ (c_X7_thrown l D z q (aa 29) 0 (aa 30) (aa 31) (aa 32) (aa 33) (aa 34) (aa 35) (aa 36) (aa 37) (aa 38) (aa 39) (aa 40) pl ct ti sh ia pr ltM tyM zz po ml me ek ef wt wh sn kpM dy) (cwV 0 hts gL_law_X7_thrown rfl rfl rfl hd_X7_thrown ⟨Nat.le_of_ble_eq_true rfl, Nat.le_of_ble_eq_true rfl⟩) hE hS hA hP [29, 30, 31, 32, 33, 34, 35, 36, 37, 38, 39, 40] rfl rfl rfl rfl rfl hl.1 rfl (Nat.le_of_ble_eq_true rfl) dL_law_1141 ⟨(by show 60 + 8 * i + 3 + 0 ≤ 601024; omega), (by show 4000 + 40 * i + 18 + 0 ≤ 7293034; omega)⟩ ?_
    refine lv_iload hx hb dL_law_1144 (lv_at hl 1 rfl) ?_
    refine lv_icmp_eq (tgt := 1151) hx hb dL_law_1146 (by decide) (fun _ => ?_) (fun c_1 => absurd (by decide) c_1)
    refine lv_iload hx hb dL_law_1151 (lv_at hl 1 rfl) ?_
    refine lv_if_ne (tgt := 1168) hx hb dL_law_1153 (by decide) (fun c_2 => absurd (by decide) c_2) (fun _ => ?_)
    refine lv_aload_n hx hb dL_law_1156 rfl (lv_at hl 5 rfl) ?_
    refine lv_iconst (v := 0) hx hb dL_law_1157 (by decide) ?_
    refine va_lald hx hb hK hP 41 2 rfl rfl in0 dL_law_1158 ?_
    refine lv_iload hx hb dL_law_1159 (lv_at hl 0 rfl) ?_
    refine lv_i2l (v := (cAt 8 ef v1).toInt64) hx hb dL_law_1161 rfl ?_
    refine W.lcmp hx hb dL_law_1162 ?_
    refine lv_if_eq (tgt := 1168) hx hb dL_law_1163 (by decide) (fun _ => ?_) (fun c_3 => absurd (lgu rfl) c_3)
    refine lv_goto (tgt := 1466) hx hb dL_law_1168 (by decide) ?_
    exact W.widen (by omega) (by omega) (next pl lo ct ti sh pr ia lt ty kp ek ef ltM tyM kpM wt wh zz po me ml sn dy 0 (vp_updL ov (0 : Int32).toNatClampNeg (cAt 8 ef v1).toInt64) H locs (INV_mono hI) hP hD hS ls (lv_sub hl [2, 3, 4, 5, 6] rfl))
set_option maxHeartbeats 4000000 in
set_option maxRecDepth 100000 in
theorem law_20 {p : Program} {l : Launch} {e : Env} {s : State} {m : MethodId} {below : List Frame} {meth : Method} {c : Code} {D : va_G} {z : Nat → ClassId} {q aa : Nat → Nat} {b L : Nat} {xs : Nat → Int32} {i : Nat} (G : LG p l e s m below meth c D z q b L xs) (h4 : 4 * i + 4 ≤ L) (next : LAW p l e s m below meth c D z aa b 1466 (i + 1) i) : LAW p l e s m below meth c D z aa b 1171 i i := by
  obtain ⟨hx, hb, hml, hown, hts, hX, hbl, hE, hlt, hL⟩ := G
  have hi5 : i < 512 := by omega
  have hbA : ¬ (fun x : Nat => s.heap.size ≤ x) b := Nat.not_le_of_lt hbl
  have hA : ∀ x : Nat, s.heap.size ≤ x → (fun x : Nat => s.heap.size ≤ x) x := fun _ h => h
  have hK := hE.1
  intro pl lo ct ti sh pr ia lt ty kp ek ef ltM tyM kpM wt wh zz po me ml sn dy th ov H locs hI hP hD hS ls hl
  have ⟨hB, hPR, hIO, ⟨zn, hzz, hz40, hlt9, ps, hpo, hps, hty⟩, ⟨mn, hml9, hmn⟩, ⟨sk, hsn, hsk, hkp⟩⟩ := hI
  obtain ⟨v1, hv1⟩ : ∃ v, v = xs (nI (4 * i) + 1).toNatClampNeg := ⟨_, rfl⟩
  obtain ⟨v2, hv2⟩ : ∃ v, v = xs (nI (4 * i) + 2).toNatClampNeg := ⟨_, rfl⟩
  by_cases e0 : bW v1 1 5000 = 0
  · refine lv_aload_n hx hb dL_law_1171 rfl (lv_at hl 1 rfl) ?_
    refine lv_aload_n hx hb dL_law_1172 rfl (lv_at hl 0 rfl) ?_
    refine lv_iload hx hb dL_law_1173 (lv_at hl 4 rfl) ?_
    refine lv_iconst (v := 1) hx hb dL_law_1175 (by decide) ?_
    refine lv_iadd hx hb dL_law_1176 ?_
    refine mSld hx hb hX hbl hbA hS (show vp_in (nI (4 * i) + 1) L from in4 (k := 1) (by omega) hL) hv1 dL_law_1177 ?_
    refine lv_aload_n hx hb dL_law_1178 rfl (lv_at hl 0 rfl) ?_
    refine lv_iload hx hb dL_law_1179 (lv_at hl 4 rfl) ?_
    refine lv_iconst (v := 2) hx hb dL_law_1181 (by decide) ?_
    refine lv_iadd hx hb dL_law_1182 ?_
    refine mSld hx hb hX hbl hbA hS (show vp_in (nI (4 * i) + 2) L from in4 (k := 2) (by omega) hL) hv2 dL_law_1183 ?_
    refine hwS (As := [.ref (aa 0), .int v1, .int v2]) (rest := []) ⟨hx, hb, hml, hown, hts⟩ (c_L_wish_0 l D z q (aa 0) (aa 1) (aa 6) (aa 15) (aa 17) (aa 22) (aa 25) (aa 27) dy (aa 7) (aa 8) (aa 9) (aa 10) (aa 11) (aa 12) (aa 13) (aa 14) ct ti sh pr wt wh v1 v2 H.size e0 hlt) (vx_cwSW 3 hts gL_law_L_wish rfl rfl rfl hd_L_wish.2 ⟨Nat.le_of_ble_eq_true rfl, Nat.le_of_ble_eq_true rfl⟩) hE hS hA hP hD [0, 6, 7, 8, 9, 10, 11, 12, 13, 14] rfl rfl rfl rfl hl.1 rfl (Nat.le_of_ble_eq_true rfl) dL_law_1184 ⟨(by show 60 + 8 * i + 3 ≤ 601024; omega), (by show 4000 + 40 * i + 18 ≤ 7293034; omega)⟩ (fun H locs hP hD hS => ?_)
    have hP : va_P D vwCl (lawW z aa pl lo ct ti sh pr ia lt ty kp ek ef wt wh zz po me ml sn dy pl ct ti sh pr ia ltM tyM kpM ek ef wt wh zz po me ml sn dy th ov) H := hP
    have hD : va_D (fun x : Nat => s.heap.size ≤ x) (lawW z aa pl lo ct ti sh pr ia lt ty kp ek ef wt wh zz po me ml sn dy pl ct ti sh pr ia ltM tyM kpM ek ef wt wh zz po me ml sn dy th ov) := hD
    refine lv_istore (lv' := [(5, .int 1), (0, .ref b), (1, .ref (aa 0)), (2, .ref (aa 29)), (3, .ref (aa 41)), (4, .int (nI (4 * i)))]) hx hb dL_law_1187 hl (by decide) rfl (fun ls hl => ?_)
    refine lv_aload_n hx hb dL_law_1189 rfl (lv_at hl 3 rfl) ?_
    refine lv_aload_n hx hb dL_law_1190 rfl (lv_at hl 1 rfl) ?_
    refine lv_iload hx hb dL_law_1191 (lv_at hl 5 rfl) ?_
    refine lv_iconst (v := 1) hx hb dL_law_1193 (by decide) ?_
    refine lv_iadd hx hb dL_law_1194 ?_
    refine mSld hx hb hX hbl hbA hS (show vp_in (nI (4 * i) + 1) L from in4 (k := 1) (by omega) hL) hv1 dL_law_1195 ?_
    refine lv_aload_n hx hb dL_law_1196 rfl (lv_at hl 1 rfl) ?_
    refine lv_iload hx hb dL_law_1197 (lv_at hl 5 rfl) ?_
    refine lv_iconst (v := 2) hx hb dL_law_1199 (by decide) ?_
    refine lv_iadd hx hb dL_law_1200 ?_
    refine mSld hx hb hX hbl hbA hS (show vp_in (nI (4 * i) + 2) L from in4 (k := 2) (by omega) hL) hv2 dL_law_1201 ?_
    refine wrVv (As := [.int v1, .int v2]) (rest := []) ⟨hx, hb, hml, hown, hts⟩ (c_X7_wish_b0 l D z q (aa 29) th (aa 30) (aa 31) (aa 32) (aa 33) (aa 34) (aa 35) (aa 36) (aa 37) (aa 38) (aa 39) (aa 40) pl ct ti sh ia pr ltM tyM zz po ml me ek ef wt wh sn kpM dy v1 v2 H.size e0) (cwV 2 hts gL_law_X7_wish rfl rfl rfl hd_X7_wish ⟨Nat.le_of_ble_eq_true rfl, Nat.le_of_ble_eq_true rfl⟩) hE hS hA hP hD [29, 30, 31, 32, 33, 34, 35, 36, 37, 38, 39, 40] rfl rfl rfl rfl rfl rfl rfl hl.1 rfl (Nat.le_of_ble_eq_true rfl) dL_law_1202 ⟨(by show 60 + 8 * i + 3 + 0 ≤ 601024; omega), (by show 4000 + 40 * i + 18 + 0 ≤ 7293034; omega)⟩ (fun H locs hP hD hS => ?_)
    have hP : va_P D vwCl (lawW z aa pl lo ct ti sh pr ia lt ty kp ek ef wt wh zz po me ml sn dy pl ct ti sh pr ia ltM tyM kpM ek ef wt wh zz po me ml sn dy 1 ov) H := hP
    have hD : va_D (fun x : Nat => s.heap.size ≤ x) (lawW z aa pl lo ct ti sh pr ia lt ty kp ek ef wt wh zz po me ml sn dy pl ct ti sh pr ia ltM tyM kpM ek ef wt wh zz po me ml sn dy 1 ov) := hD
    refine lv_aload_n hx hb dL_law_1205 rfl (lv_at hl 3 rfl) ?_
    refine rdV (As := []) (rest := []) ⟨hx, hb, hml, hown, hts⟩ (c_X7_thrown l D z q (aa 29) 1 (aa 30) (aa 31) (aa 32) (aa 33) (aa 34) (aa 35) (aa 36) (aa 37) (aa 38) (aa 39) (aa 40) pl ct ti sh ia pr ltM tyM zz po ml me ek ef wt wh sn kpM dy) (cwV 0 hts gL_law_X7_thrown rfl rfl rfl hd_X7_thrown ⟨Nat.le_of_ble_eq_true rfl, Nat.le_of_ble_eq_true rfl⟩) hE hS hA hP [29, 30, 31, 32, 33, 34, 35, 36, 37, 38, 39, 40] rfl rfl rfl rfl rfl hl.1 rfl (Nat.le_of_ble_eq_true rfl) dL_law_1206 ⟨(by show 60 + 8 * i + 3 + 0 ≤ 601024; omega), (by show 4000 + 40 * i + 18 + 0 ≤ 7293034; omega)⟩ ?_
    refine lv_iload hx hb dL_law_1209 (lv_at hl 0 rfl) ?_
    refine lv_icmp_eq (tgt := 1216) hx hb dL_law_1211 (by decide) (fun _ => ?_) (fun c_1 => absurd (by decide) c_1)
    refine lv_goto (tgt := 1466) hx hb dL_law_1216 (by decide) ?_
    exact W.widen (by omega) (by omega) (next pl lo ct ti sh pr ia lt ty kp ek ef ltM tyM kpM wt wh zz po me ml sn dy 1 ov H locs (INV_mono hI) hP hD hS ls (lv_sub hl [1, 2, 3, 4, 5] rfl))
  · by_cases e1 : bW v2 0 10000 = 0
    · refine lv_aload_n hx hb dL_law_1171 rfl (lv_at hl 1 rfl) ?_
      refine lv_aload_n hx hb dL_law_1172 rfl (lv_at hl 0 rfl) ?_
      refine lv_iload hx hb dL_law_1173 (lv_at hl 4 rfl) ?_
      refine lv_iconst (v := 1) hx hb dL_law_1175 (by decide) ?_
      refine lv_iadd hx hb dL_law_1176 ?_
      refine mSld hx hb hX hbl hbA hS (show vp_in (nI (4 * i) + 1) L from in4 (k := 1) (by omega) hL) hv1 dL_law_1177 ?_
      refine lv_aload_n hx hb dL_law_1178 rfl (lv_at hl 0 rfl) ?_
      refine lv_iload hx hb dL_law_1179 (lv_at hl 4 rfl) ?_
      refine lv_iconst (v := 2) hx hb dL_law_1181 (by decide) ?_
      refine lv_iadd hx hb dL_law_1182 ?_
      refine mSld hx hb hX hbl hbA hS (show vp_in (nI (4 * i) + 2) L from in4 (k := 2) (by omega) hL) hv2 dL_law_1183 ?_
      refine hwS (As := [.ref (aa 0), .int v1, .int v2]) (rest := []) ⟨hx, hb, hml, hown, hts⟩ (c_L_wish_1 l D z q (aa 0) (aa 1) (aa 6) (aa 15) (aa 17) (aa 22) (aa 25) (aa 27) dy (aa 7) (aa 8) (aa 9) (aa 10) (aa 11) (aa 12) (aa 13) (aa 14) ct ti sh pr wt wh v1 v2 H.size e0 e1 hlt) (vx_cwSW 3 hts gL_law_L_wish rfl rfl rfl hd_L_wish.2 ⟨Nat.le_of_ble_eq_true rfl, Nat.le_of_ble_eq_true rfl⟩) hE hS hA hP hD [0, 6, 7, 8, 9, 10, 11, 12, 13, 14] rfl rfl rfl rfl hl.1 rfl (Nat.le_of_ble_eq_true rfl) dL_law_1184 ⟨(by show 60 + 8 * i + 3 ≤ 601024; omega), (by show 4000 + 40 * i + 18 ≤ 7293034; omega)⟩ (fun H locs hP hD hS => ?_)
      have hP : va_P D vwCl (lawW z aa pl lo ct ti sh pr ia lt ty kp ek ef wt wh zz po me ml sn dy pl ct ti sh pr ia ltM tyM kpM ek ef wt wh zz po me ml sn dy th ov) H := hP
      have hD : va_D (fun x : Nat => s.heap.size ≤ x) (lawW z aa pl lo ct ti sh pr ia lt ty kp ek ef wt wh zz po me ml sn dy pl ct ti sh pr ia ltM tyM kpM ek ef wt wh zz po me ml sn dy th ov) := hD
      refine lv_istore (lv' := [(5, .int 1), (0, .ref b), (1, .ref (aa 0)), (2, .ref (aa 29)), (3, .ref (aa 41)), (4, .int (nI (4 * i)))]) hx hb dL_law_1187 hl (by decide) rfl (fun ls hl => ?_)
      refine lv_aload_n hx hb dL_law_1189 rfl (lv_at hl 3 rfl) ?_
      refine lv_aload_n hx hb dL_law_1190 rfl (lv_at hl 1 rfl) ?_
      refine lv_iload hx hb dL_law_1191 (lv_at hl 5 rfl) ?_
      refine lv_iconst (v := 1) hx hb dL_law_1193 (by decide) ?_
      refine lv_iadd hx hb dL_law_1194 ?_
      refine mSld hx hb hX hbl hbA hS (show vp_in (nI (4 * i) + 1) L from in4 (k := 1) (by omega) hL) hv1 dL_law_1195 ?_
      refine lv_aload_n hx hb dL_law_1196 rfl (lv_at hl 1 rfl) ?_
      refine lv_iload hx hb dL_law_1197 (lv_at hl 5 rfl) ?_
      refine lv_iconst (v := 2) hx hb dL_law_1199 (by decide) ?_
      refine lv_iadd hx hb dL_law_1200 ?_
      refine mSld hx hb hX hbl hbA hS (show vp_in (nI (4 * i) + 2) L from in4 (k := 2) (by omega) hL) hv2 dL_law_1201 ?_
      refine wrVv (As := [.int v1, .int v2]) (rest := []) ⟨hx, hb, hml, hown, hts⟩ (c_X7_wish_b1 l D z q (aa 29) th (aa 30) (aa 31) (aa 32) (aa 33) (aa 34) (aa 35) (aa 36) (aa 37) (aa 38) (aa 39) (aa 40) pl ct ti sh ia pr ltM tyM zz po ml me ek ef wt wh sn kpM dy v1 v2 H.size e0 e1) (cwV 2 hts gL_law_X7_wish rfl rfl rfl hd_X7_wish ⟨Nat.le_of_ble_eq_true rfl, Nat.le_of_ble_eq_true rfl⟩) hE hS hA hP hD [29, 30, 31, 32, 33, 34, 35, 36, 37, 38, 39, 40] rfl rfl rfl rfl rfl rfl rfl hl.1 rfl (Nat.le_of_ble_eq_true rfl) dL_law_1202 ⟨(by show 60 + 8 * i + 3 + 0 ≤ 601024; omega), (by show 4000 + 40 * i + 18 + 0 ≤ 7293034; omega)⟩ (fun H locs hP hD hS => ?_)
      have hP : va_P D vwCl (lawW z aa pl lo ct ti sh pr ia lt ty kp ek ef wt wh zz po me ml sn dy pl ct ti sh pr ia ltM tyM kpM ek ef wt wh zz po me ml sn dy 1 ov) H := hP
      have hD : va_D (fun x : Nat => s.heap.size ≤ x) (lawW z aa pl lo ct ti sh pr ia lt ty kp ek ef wt wh zz po me ml sn dy pl ct ti sh pr ia ltM tyM kpM ek ef wt wh zz po me ml sn dy 1 ov) := hD
      refine lv_aload_n hx hb dL_law_1205 rfl (lv_at hl 3 rfl) ?_
      refine rdV (As := []) (rest := []) ⟨hx, hb, hml, hown, hts⟩ (c_X7_thrown l D z q (aa 29) 1 (aa 30) (aa 31) (aa 32) (aa 33) (aa 34) (aa 35) (aa 36) (aa 37) (aa 38) (aa 39) (aa 40) pl ct ti sh ia pr ltM tyM zz po ml me ek ef wt wh sn kpM dy) (cwV 0 hts gL_law_X7_thrown rfl rfl rfl hd_X7_thrown ⟨Nat.le_of_ble_eq_true rfl, Nat.le_of_ble_eq_true rfl⟩) hE hS hA hP [29, 30, 31, 32, 33, 34, 35, 36, 37, 38, 39, 40] rfl rfl rfl rfl rfl hl.1 rfl (Nat.le_of_ble_eq_true rfl) dL_law_1206 ⟨(by show 60 + 8 * i + 3 + 0 ≤ 601024; omega), (by show 4000 + 40 * i + 18 + 0 ≤ 7293034; omega)⟩ ?_
      refine lv_iload hx hb dL_law_1209 (lv_at hl 0 rfl) ?_
      refine lv_icmp_eq (tgt := 1216) hx hb dL_law_1211 (by decide) (fun _ => ?_) (fun c_1 => absurd (by decide) c_1)
      refine lv_goto (tgt := 1466) hx hb dL_law_1216 (by decide) ?_
      exact W.widen (by omega) (by omega) (next pl lo ct ti sh pr ia lt ty kp ek ef ltM tyM kpM wt wh zz po me ml sn dy 1 ov H locs (INV_mono hI) hP hD hS ls (lv_sub hl [1, 2, 3, 4, 5] rfl))
    · refine lv_aload_n hx hb dL_law_1171 rfl (lv_at hl 1 rfl) ?_
      refine lv_aload_n hx hb dL_law_1172 rfl (lv_at hl 0 rfl) ?_
      refine lv_iload hx hb dL_law_1173 (lv_at hl 4 rfl) ?_
      refine lv_iconst (v := 1) hx hb dL_law_1175 (by decide) ?_
      refine lv_iadd hx hb dL_law_1176 ?_
      refine mSld hx hb hX hbl hbA hS (show vp_in (nI (4 * i) + 1) L from in4 (k := 1) (by omega) hL) hv1 dL_law_1177 ?_
      refine lv_aload_n hx hb dL_law_1178 rfl (lv_at hl 0 rfl) ?_
      refine lv_iload hx hb dL_law_1179 (lv_at hl 4 rfl) ?_
      refine lv_iconst (v := 2) hx hb dL_law_1181 (by decide) ?_
      refine lv_iadd hx hb dL_law_1182 ?_
      refine mSld hx hb hX hbl hbA hS (show vp_in (nI (4 * i) + 2) L from in4 (k := 2) (by omega) hL) hv2 dL_law_1183 ?_
      refine hwS (As := [.ref (aa 0), .int v1, .int v2]) (rest := []) ⟨hx, hb, hml, hown, hts⟩ (c_L_wish_2 l D z q (aa 0) (aa 1) (aa 6) (aa 15) (aa 17) (aa 22) (aa 25) (aa 27) dy (aa 7) (aa 8) (aa 9) (aa 10) (aa 11) (aa 12) (aa 13) (aa 14) ct ti sh pr wt wh v1 v2 H.size e0 e1 hlt) (vx_cwSW 3 hts gL_law_L_wish rfl rfl rfl hd_L_wish.2 ⟨Nat.le_of_ble_eq_true rfl, Nat.le_of_ble_eq_true rfl⟩) hE hS hA hP hD [0, 6, 7, 8, 9, 10, 11, 12, 13, 14] rfl rfl rfl rfl hl.1 rfl (Nat.le_of_ble_eq_true rfl) dL_law_1184 ⟨(by show 60 + 8 * i + 3 ≤ 601024; omega), (by show 4000 + 40 * i + 18 ≤ 7293034; omega)⟩ (fun H locs hP hD hS => ?_)
      have hP : va_P D vwCl (lawW z aa pl lo ct ti sh pr ia lt ty kp ek ef v1 v2 zz po me ml sn dy pl ct ti sh pr ia ltM tyM kpM ek ef wt wh zz po me ml sn dy th ov) H := hP
      have hD : va_D (fun x : Nat => s.heap.size ≤ x) (lawW z aa pl lo ct ti sh pr ia lt ty kp ek ef v1 v2 zz po me ml sn dy pl ct ti sh pr ia ltM tyM kpM ek ef wt wh zz po me ml sn dy th ov) := hD
      refine lv_istore (lv' := [(5, .int 0), (0, .ref b), (1, .ref (aa 0)), (2, .ref (aa 29)), (3, .ref (aa 41)), (4, .int (nI (4 * i)))]) hx hb dL_law_1187 hl (by decide) rfl (fun ls hl => ?_)
      refine lv_aload_n hx hb dL_law_1189 rfl (lv_at hl 3 rfl) ?_
      refine lv_aload_n hx hb dL_law_1190 rfl (lv_at hl 1 rfl) ?_
      refine lv_iload hx hb dL_law_1191 (lv_at hl 5 rfl) ?_
      refine lv_iconst (v := 1) hx hb dL_law_1193 (by decide) ?_
      refine lv_iadd hx hb dL_law_1194 ?_
      refine mSld hx hb hX hbl hbA hS (show vp_in (nI (4 * i) + 1) L from in4 (k := 1) (by omega) hL) hv1 dL_law_1195 ?_
      refine lv_aload_n hx hb dL_law_1196 rfl (lv_at hl 1 rfl) ?_
      refine lv_iload hx hb dL_law_1197 (lv_at hl 5 rfl) ?_
      refine lv_iconst (v := 2) hx hb dL_law_1199 (by decide) ?_
      refine lv_iadd hx hb dL_law_1200 ?_
      refine mSld hx hb hX hbl hbA hS (show vp_in (nI (4 * i) + 2) L from in4 (k := 2) (by omega) hL) hv2 dL_law_1201 ?_
      refine wrVv (As := [.int v1, .int v2]) (rest := []) ⟨hx, hb, hml, hown, hts⟩ (c_X7_wish_ok l D z q (aa 29) th (aa 30) (aa 31) (aa 32) (aa 33) (aa 34) (aa 35) (aa 36) (aa 37) (aa 38) (aa 39) (aa 40) pl ct ti sh ia pr ltM tyM zz po ml me ek ef wt wh sn kpM dy v1 v2 H.size e0 e1) (cwV 2 hts gL_law_X7_wish rfl rfl rfl hd_X7_wish ⟨Nat.le_of_ble_eq_true rfl, Nat.le_of_ble_eq_true rfl⟩) hE hS hA hP hD [29, 30, 31, 32, 33, 34, 35, 36, 37, 38, 39, 40] rfl rfl rfl rfl rfl rfl rfl hl.1 rfl (Nat.le_of_ble_eq_true rfl) dL_law_1202 ⟨(by show 60 + 8 * i + 3 + 0 ≤ 601024; omega), (by show 4000 + 40 * i + 18 + 0 ≤ 7293034; omega)⟩ (fun H locs hP hD hS => ?_)
      have hP : va_P D vwCl (lawW z aa pl lo ct ti sh pr ia lt ty kp ek ef v1 v2 zz po me ml sn dy pl ct ti sh pr ia ltM tyM kpM ek ef v1 v2 zz po me ml sn dy 0 ov) H := hP
      have hD : va_D (fun x : Nat => s.heap.size ≤ x) (lawW z aa pl lo ct ti sh pr ia lt ty kp ek ef v1 v2 zz po me ml sn dy pl ct ti sh pr ia ltM tyM kpM ek ef v1 v2 zz po me ml sn dy 0 ov) := hD
      refine lv_aload_n hx hb dL_law_1205 rfl (lv_at hl 3 rfl) ?_
      refine rdV (As := []) (rest := []) ⟨hx, hb, hml, hown, hts⟩ (c_X7_thrown l D z q (aa 29) 0 (aa 30) (aa 31) (aa 32) (aa 33) (aa 34) (aa 35) (aa 36) (aa 37) (aa 38) (aa 39) (aa 40) pl ct ti sh ia pr ltM tyM zz po ml me ek ef v1 v2 sn kpM dy) (cwV 0 hts gL_law_X7_thrown rfl rfl rfl hd_X7_thrown ⟨Nat.le_of_ble_eq_true rfl, Nat.le_of_ble_eq_true rfl⟩) hE hS hA hP [29, 30, 31, 32, 33, 34, 35, 36, 37, 38, 39, 40] rfl rfl rfl rfl rfl hl.1 rfl (Nat.le_of_ble_eq_true rfl) dL_law_1206 ⟨(by show 60 + 8 * i + 3 + 0 ≤ 601024; omega), (by show 4000 + 40 * i + 18 + 0 ≤ 7293034; omega)⟩ ?_
      refine lv_iload hx hb dL_law_1209 (lv_at hl 0 rfl) ?_
      refine lv_icmp_eq (tgt := 1216) hx hb dL_law_1211 (by decide) (fun _ => ?_) (fun c_1 => absurd (by decide) c_1)
      refine lv_goto (tgt := 1466) hx hb dL_law_1216 (by decide) ?_
      exact W.widen (by omega) (by omega) (next pl lo ct ti sh pr ia lt ty kp ek ef ltM tyM kpM v1 v2 zz po me ml sn dy 0 ov H locs (INV_mono hI) hP hD hS ls (lv_sub hl [1, 2, 3, 4, 5] rfl))
