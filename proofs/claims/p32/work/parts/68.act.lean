/-! ===== act: the choice ===== -/
set_option maxHeartbeats 8000000 in
set_option maxRecDepth 100000 in
theorem act_t0 {N : Nat} {pl lo ct ti sh pr ia lt ty kp ek ef : Fn} {wt wh zz po me ml sn dy : Int32} (hI : CI N pl lo ct ti sh pr ia lt ty kp ek ef wt wh zz po me ml sn dy) (hN : N < 1000) (v odd how letter millis : Int32) (k0 : ¬ 6 ≤ how) : ∃ (S9 : Co) (a : Int32), CIN (N + 1) S9 ∧ (a = -99999 → S9 = (pl, lo, ct, ti, sh, pr, ia, lt, ty, kp, ek, ef, wt, wh, zz, po, me, ml, sn, dy)) ∧ ACTX (pl, lo, ct, ti, sh, pr, ia, lt, ty, kp, ek, ef, wt, wh, zz, po, me, ml, sn, dy) S9 a v odd how letter millis 114 := by
  have ⟨zn, hzz, hz40, hlt9, ps, hpo, hps, hty9⟩ := hI.1.2.2.2.1
  by_cases e0 : bW letter 0 25 = 0
  · refine ⟨(pl, lo, ct, ti, sh, pr, ia, lt, ty, kp, ek, ef, wt, wh, zz, po, me, ml, sn, dy), -99999, CI_mono hI, fun _ => rfl, ?_⟩
    intro p l e s m below meth c D z q aa A H locs G hP hD hS ls hl
    obtain ⟨hx, hb, hr, hml, hts, hown, hlocks, hE, hA, hlt⟩ := G
    have hP : va_P D vwCl (coL z aa pl lo ct ti sh pr ia lt ty kp ek ef wt wh zz po me ml sn dy) H := hP
    have hD : va_D A (coL z aa pl lo ct ti sh pr ia lt ty kp ek ef wt wh zz po me ml sn dy) := hD
    refine lv_iload_n hx hb dL_act_114 rfl (lv_at hl 1 rfl) ?_
    refine lv_bipush (v := 6) hx hb dL_act_115 (by decide) ?_
    refine lv_icmp_ge (tgt := 130) hx hb dL_act_117 (by decide) (fun c_1 => absurd c_1 k0) (fun c_1 => ?_)
    refine lv_aload_n hx hb dL_act_120 rfl (lv_at hl 4 rfl) ?_
    refine lv_iconst (v := 1) hx hb dL_act_121 (by decide) ?_
    refine lv_iload hx hb dL_act_122 (lv_at hl 2 rfl) ?_
    refine lv_iconst (v := 0) hx hb dL_act_124 (by decide) ?_
    refine lv_iconst (v := 0) hx hb dL_act_125 (by decide) ?_
    refine hwS (As := [.ref (aa 0), .int 1, .int letter, .int 0, .int 0]) (rest := []) ⟨hx, hb, hml, hown, hts⟩ (c_L_does_1_0 l D z q (aa 0) (aa 1) (aa 6) (aa 15) (aa 17) (aa 22) (aa 25) (aa 27) dy (aa 18) (aa 19) (aa 20) (aa 21) lt ty zz po me ml letter 0 0 H.size e0 hlt) (vx_cwSW 5 hts gL_act_L_does rfl rfl rfl hd_L_does ⟨Nat.le_of_ble_eq_true rfl, Nat.le_of_ble_eq_true rfl⟩) hE hS hA hP hD [0, 17, 18, 19, 20, 21] rfl rfl rfl rfl hl.1 rfl (Nat.le_of_ble_eq_true rfl) dL_act_126 ⟨(by show 0 + 3 ≤ 6; omega), (by show 0 + 18 ≤ 36; omega)⟩ (fun H locs hP hD hS => ?_)
    have hP : va_P D vwCl [((aa 0), .inr (6, [.ref (aa 1), .ref (aa 6), .ref (aa 15), .ref (aa 17), .ref (aa 22), .ref (aa 25), .ref (aa 27), .int dy])), ((aa 1), .inr (0, [.ref (aa 2), .ref (aa 4)])), ((aa 2), .inr (1, [.ref (aa 3)])), ((aa 3), .inl (z 0, 26, .inl pl)), ((aa 4), .inr (1, [.ref (aa 5)])), ((aa 5), .inl (z 0, 30, .inl lo)), ((aa 6), .inr (2, [.ref (aa 7), .ref (aa 9), .ref (aa 11), .ref (aa 13), .int wt, .int wh])), ((aa 7), .inr (1, [.ref (aa 8)])), ((aa 8), .inl (z 0, 26, .inl ct)), ((aa 9), .inr (1, [.ref (aa 10)])), ((aa 10), .inl (z 0, 26, .inl ti)), ((aa 11), .inr (1, [.ref (aa 12)])), ((aa 12), .inl (z 0, 26, .inl sh)), ((aa 13), .inr (1, [.ref (aa 14)])), ((aa 14), .inl (z 0, 676, .inl pr)), ((aa 15), .inr (4, [.ref (aa 16), .ref (aa 6)])), ((aa 16), .inl (z 1, 26, .inl ia)), ((aa 17), .inr (3, [.ref (aa 18), .ref (aa 20), .int zz, .int po, .int me, .int ml])), ((aa 18), .inr (1, [.ref (aa 19)])), ((aa 19), .inl (z 0, 40, .inl lt)), ((aa 20), .inr (1, [.ref (aa 21)])), ((aa 21), .inl (z 0, 40, .inl ty)), ((aa 22), .inr (5, [.ref (aa 23), .int sn])), ((aa 23), .inr (1, [.ref (aa 24)])), ((aa 24), .inl (z 0, 100, .inl kp)), ((aa 25), .inr (1, [.ref (aa 26)])), ((aa 26), .inl (z 0, 5, .inl ek)), ((aa 27), .inr (1, [.ref (aa 28)])), ((aa 28), .inl (z 0, 8, .inl ef))] H := hP
    have hD : va_D A [((aa 0), .inr (6, [.ref (aa 1), .ref (aa 6), .ref (aa 15), .ref (aa 17), .ref (aa 22), .ref (aa 25), .ref (aa 27), .int dy])), ((aa 1), .inr (0, [.ref (aa 2), .ref (aa 4)])), ((aa 2), .inr (1, [.ref (aa 3)])), ((aa 3), .inl (z 0, 26, .inl pl)), ((aa 4), .inr (1, [.ref (aa 5)])), ((aa 5), .inl (z 0, 30, .inl lo)), ((aa 6), .inr (2, [.ref (aa 7), .ref (aa 9), .ref (aa 11), .ref (aa 13), .int wt, .int wh])), ((aa 7), .inr (1, [.ref (aa 8)])), ((aa 8), .inl (z 0, 26, .inl ct)), ((aa 9), .inr (1, [.ref (aa 10)])), ((aa 10), .inl (z 0, 26, .inl ti)), ((aa 11), .inr (1, [.ref (aa 12)])), ((aa 12), .inl (z 0, 26, .inl sh)), ((aa 13), .inr (1, [.ref (aa 14)])), ((aa 14), .inl (z 0, 676, .inl pr)), ((aa 15), .inr (4, [.ref (aa 16), .ref (aa 6)])), ((aa 16), .inl (z 1, 26, .inl ia)), ((aa 17), .inr (3, [.ref (aa 18), .ref (aa 20), .int zz, .int po, .int me, .int ml])), ((aa 18), .inr (1, [.ref (aa 19)])), ((aa 19), .inl (z 0, 40, .inl lt)), ((aa 20), .inr (1, [.ref (aa 21)])), ((aa 21), .inl (z 0, 40, .inl ty)), ((aa 22), .inr (5, [.ref (aa 23), .int sn])), ((aa 23), .inr (1, [.ref (aa 24)])), ((aa 24), .inl (z 0, 100, .inl kp)), ((aa 25), .inr (1, [.ref (aa 26)])), ((aa 26), .inl (z 0, 5, .inl ek)), ((aa 27), .inr (1, [.ref (aa 28)])), ((aa 28), .inl (z 0, 8, .inl ef))] := hD
    exact wr_i hx hb hr hlocks hP hD hS dL_act_129 rfl rfl (by omega) (by omega)
  · by_cases e1 : ¬ tFull zz = 0
    · refine ⟨(pl, lo, ct, ti, sh, pr, ia, lt, ty, kp, ek, ef, wt, wh, zz, po, me, ml, sn, dy), -99999, CI_mono hI, fun _ => rfl, ?_⟩
      intro p l e s m below meth c D z q aa A H locs G hP hD hS ls hl
      obtain ⟨hx, hb, hr, hml, hts, hown, hlocks, hE, hA, hlt⟩ := G
      have hP : va_P D vwCl (coL z aa pl lo ct ti sh pr ia lt ty kp ek ef wt wh zz po me ml sn dy) H := hP
      have hD : va_D A (coL z aa pl lo ct ti sh pr ia lt ty kp ek ef wt wh zz po me ml sn dy) := hD
      refine lv_iload_n hx hb dL_act_114 rfl (lv_at hl 1 rfl) ?_
      refine lv_bipush (v := 6) hx hb dL_act_115 (by decide) ?_
      refine lv_icmp_ge (tgt := 130) hx hb dL_act_117 (by decide) (fun c_1 => absurd c_1 k0) (fun c_1 => ?_)
      refine lv_aload_n hx hb dL_act_120 rfl (lv_at hl 4 rfl) ?_
      refine lv_iconst (v := 1) hx hb dL_act_121 (by decide) ?_
      refine lv_iload hx hb dL_act_122 (lv_at hl 2 rfl) ?_
      refine lv_iconst (v := 0) hx hb dL_act_124 (by decide) ?_
      refine lv_iconst (v := 0) hx hb dL_act_125 (by decide) ?_
      refine hwS (As := [.ref (aa 0), .int 1, .int letter, .int 0, .int 0]) (rest := []) ⟨hx, hb, hml, hown, hts⟩ (c_L_does_1_1 l D z q (aa 0) (aa 1) (aa 6) (aa 15) (aa 17) (aa 22) (aa 25) (aa 27) dy (aa 18) (aa 19) (aa 20) (aa 21) lt ty zz po me ml letter 0 0 H.size e0 e1 hlt) (vx_cwSW 5 hts gL_act_L_does rfl rfl rfl hd_L_does ⟨Nat.le_of_ble_eq_true rfl, Nat.le_of_ble_eq_true rfl⟩) hE hS hA hP hD [0, 17, 18, 19, 20, 21] rfl rfl rfl rfl hl.1 rfl (Nat.le_of_ble_eq_true rfl) dL_act_126 ⟨(by show 0 + 3 ≤ 6; omega), (by show 0 + 18 ≤ 36; omega)⟩ (fun H locs hP hD hS => ?_)
      have hP : va_P D vwCl [((aa 0), .inr (6, [.ref (aa 1), .ref (aa 6), .ref (aa 15), .ref (aa 17), .ref (aa 22), .ref (aa 25), .ref (aa 27), .int dy])), ((aa 1), .inr (0, [.ref (aa 2), .ref (aa 4)])), ((aa 2), .inr (1, [.ref (aa 3)])), ((aa 3), .inl (z 0, 26, .inl pl)), ((aa 4), .inr (1, [.ref (aa 5)])), ((aa 5), .inl (z 0, 30, .inl lo)), ((aa 6), .inr (2, [.ref (aa 7), .ref (aa 9), .ref (aa 11), .ref (aa 13), .int wt, .int wh])), ((aa 7), .inr (1, [.ref (aa 8)])), ((aa 8), .inl (z 0, 26, .inl ct)), ((aa 9), .inr (1, [.ref (aa 10)])), ((aa 10), .inl (z 0, 26, .inl ti)), ((aa 11), .inr (1, [.ref (aa 12)])), ((aa 12), .inl (z 0, 26, .inl sh)), ((aa 13), .inr (1, [.ref (aa 14)])), ((aa 14), .inl (z 0, 676, .inl pr)), ((aa 15), .inr (4, [.ref (aa 16), .ref (aa 6)])), ((aa 16), .inl (z 1, 26, .inl ia)), ((aa 17), .inr (3, [.ref (aa 18), .ref (aa 20), .int zz, .int po, .int me, .int ml])), ((aa 18), .inr (1, [.ref (aa 19)])), ((aa 19), .inl (z 0, 40, .inl lt)), ((aa 20), .inr (1, [.ref (aa 21)])), ((aa 21), .inl (z 0, 40, .inl ty)), ((aa 22), .inr (5, [.ref (aa 23), .int sn])), ((aa 23), .inr (1, [.ref (aa 24)])), ((aa 24), .inl (z 0, 100, .inl kp)), ((aa 25), .inr (1, [.ref (aa 26)])), ((aa 26), .inl (z 0, 5, .inl ek)), ((aa 27), .inr (1, [.ref (aa 28)])), ((aa 28), .inl (z 0, 8, .inl ef))] H := hP
      have hD : va_D A [((aa 0), .inr (6, [.ref (aa 1), .ref (aa 6), .ref (aa 15), .ref (aa 17), .ref (aa 22), .ref (aa 25), .ref (aa 27), .int dy])), ((aa 1), .inr (0, [.ref (aa 2), .ref (aa 4)])), ((aa 2), .inr (1, [.ref (aa 3)])), ((aa 3), .inl (z 0, 26, .inl pl)), ((aa 4), .inr (1, [.ref (aa 5)])), ((aa 5), .inl (z 0, 30, .inl lo)), ((aa 6), .inr (2, [.ref (aa 7), .ref (aa 9), .ref (aa 11), .ref (aa 13), .int wt, .int wh])), ((aa 7), .inr (1, [.ref (aa 8)])), ((aa 8), .inl (z 0, 26, .inl ct)), ((aa 9), .inr (1, [.ref (aa 10)])), ((aa 10), .inl (z 0, 26, .inl ti)), ((aa 11), .inr (1, [.ref (aa 12)])), ((aa 12), .inl (z 0, 26, .inl sh)), ((aa 13), .inr (1, [.ref (aa 14)])), ((aa 14), .inl (z 0, 676, .inl pr)), ((aa 15), .inr (4, [.ref (aa 16), .ref (aa 6)])), ((aa 16), .inl (z 1, 26, .inl ia)), ((aa 17), .inr (3, [.ref (aa 18), .ref (aa 20), .int zz, .int po, .int me, .int ml])), ((aa 18), .inr (1, [.ref (aa 19)])), ((aa 19), .inl (z 0, 40, .inl lt)), ((aa 20), .inr (1, [.ref (aa 21)])), ((aa 21), .inl (z 0, 40, .inl ty)), ((aa 22), .inr (5, [.ref (aa 23), .int sn])), ((aa 23), .inr (1, [.ref (aa 24)])), ((aa 24), .inl (z 0, 100, .inl kp)), ((aa 25), .inr (1, [.ref (aa 26)])), ((aa 26), .inl (z 0, 5, .inl ek)), ((aa 27), .inr (1, [.ref (aa 28)])), ((aa 28), .inl (z 0, 8, .inl ef))] := hD
      exact wr_i hx hb hr hlocks hP hD hS dL_act_129 rfl rfl (by omega) (by omega)
    · refine ⟨(pl, lo, ct, ti, sh, pr, ia, cSet 40 lt zz letter, ty, kp, ek, ef, wt, wh, zz + 1, po, me, ml, sn, dy), zz + 1, (CI_want hI e0 e1).1, fun h => absurd h (CI_want hI e0 e1).2, ?_⟩
      intro p l e s m below meth c D z q aa A H locs G hP hD hS ls hl
      obtain ⟨hx, hb, hr, hml, hts, hown, hlocks, hE, hA, hlt⟩ := G
      have hP : va_P D vwCl (coL z aa pl lo ct ti sh pr ia lt ty kp ek ef wt wh zz po me ml sn dy) H := hP
      have hD : va_D A (coL z aa pl lo ct ti sh pr ia lt ty kp ek ef wt wh zz po me ml sn dy) := hD
      refine lv_iload_n hx hb dL_act_114 rfl (lv_at hl 1 rfl) ?_
      refine lv_bipush (v := 6) hx hb dL_act_115 (by decide) ?_
      refine lv_icmp_ge (tgt := 130) hx hb dL_act_117 (by decide) (fun c_1 => absurd c_1 k0) (fun c_1 => ?_)
      refine lv_aload_n hx hb dL_act_120 rfl (lv_at hl 4 rfl) ?_
      refine lv_iconst (v := 1) hx hb dL_act_121 (by decide) ?_
      refine lv_iload hx hb dL_act_122 (lv_at hl 2 rfl) ?_
      refine lv_iconst (v := 0) hx hb dL_act_124 (by decide) ?_
      refine lv_iconst (v := 0) hx hb dL_act_125 (by decide) ?_
      refine hwS (As := [.ref (aa 0), .int 1, .int letter, .int 0, .int 0]) (rest := []) ⟨hx, hb, hml, hown, hts⟩ (c_L_does_1_2 l D z q (aa 0) (aa 1) (aa 6) (aa 15) (aa 17) (aa 22) (aa 25) (aa 27) dy (aa 18) (aa 19) (aa 20) (aa 21) lt ty zz po me ml letter 0 0 H.size e0 e1 hlt) (vx_cwSW 5 hts gL_act_L_does rfl rfl rfl hd_L_does ⟨Nat.le_of_ble_eq_true rfl, Nat.le_of_ble_eq_true rfl⟩) hE hS hA hP hD [0, 17, 18, 19, 20, 21] rfl rfl rfl rfl hl.1 rfl (Nat.le_of_ble_eq_true rfl) dL_act_126 ⟨(by show 0 + 3 ≤ 6; omega), (by show 0 + 18 ≤ 36; omega)⟩ (fun H locs hP hD hS => ?_)
      have hP : va_P D vwCl [((aa 0), .inr (6, [.ref (aa 1), .ref (aa 6), .ref (aa 15), .ref (aa 17), .ref (aa 22), .ref (aa 25), .ref (aa 27), .int dy])), ((aa 1), .inr (0, [.ref (aa 2), .ref (aa 4)])), ((aa 2), .inr (1, [.ref (aa 3)])), ((aa 3), .inl (z 0, 26, .inl pl)), ((aa 4), .inr (1, [.ref (aa 5)])), ((aa 5), .inl (z 0, 30, .inl lo)), ((aa 6), .inr (2, [.ref (aa 7), .ref (aa 9), .ref (aa 11), .ref (aa 13), .int wt, .int wh])), ((aa 7), .inr (1, [.ref (aa 8)])), ((aa 8), .inl (z 0, 26, .inl ct)), ((aa 9), .inr (1, [.ref (aa 10)])), ((aa 10), .inl (z 0, 26, .inl ti)), ((aa 11), .inr (1, [.ref (aa 12)])), ((aa 12), .inl (z 0, 26, .inl sh)), ((aa 13), .inr (1, [.ref (aa 14)])), ((aa 14), .inl (z 0, 676, .inl pr)), ((aa 15), .inr (4, [.ref (aa 16), .ref (aa 6)])), ((aa 16), .inl (z 1, 26, .inl ia)), ((aa 17), .inr (3, [.ref (aa 18), .ref (aa 20), .int (zz + 1), .int po, .int me, .int ml])), ((aa 18), .inr (1, [.ref (aa 19)])), ((aa 19), .inl (z 0, 40, .inl (cSet 40 lt zz letter))), ((aa 20), .inr (1, [.ref (aa 21)])), ((aa 21), .inl (z 0, 40, .inl ty)), ((aa 22), .inr (5, [.ref (aa 23), .int sn])), ((aa 23), .inr (1, [.ref (aa 24)])), ((aa 24), .inl (z 0, 100, .inl kp)), ((aa 25), .inr (1, [.ref (aa 26)])), ((aa 26), .inl (z 0, 5, .inl ek)), ((aa 27), .inr (1, [.ref (aa 28)])), ((aa 28), .inl (z 0, 8, .inl ef))] H := hP
      have hD : va_D A [((aa 0), .inr (6, [.ref (aa 1), .ref (aa 6), .ref (aa 15), .ref (aa 17), .ref (aa 22), .ref (aa 25), .ref (aa 27), .int dy])), ((aa 1), .inr (0, [.ref (aa 2), .ref (aa 4)])), ((aa 2), .inr (1, [.ref (aa 3)])), ((aa 3), .inl (z 0, 26, .inl pl)), ((aa 4), .inr (1, [.ref (aa 5)])), ((aa 5), .inl (z 0, 30, .inl lo)), ((aa 6), .inr (2, [.ref (aa 7), .ref (aa 9), .ref (aa 11), .ref (aa 13), .int wt, .int wh])), ((aa 7), .inr (1, [.ref (aa 8)])), ((aa 8), .inl (z 0, 26, .inl ct)), ((aa 9), .inr (1, [.ref (aa 10)])), ((aa 10), .inl (z 0, 26, .inl ti)), ((aa 11), .inr (1, [.ref (aa 12)])), ((aa 12), .inl (z 0, 26, .inl sh)), ((aa 13), .inr (1, [.ref (aa 14)])), ((aa 14), .inl (z 0, 676, .inl pr)), ((aa 15), .inr (4, [.ref (aa 16), .ref (aa 6)])), ((aa 16), .inl (z 1, 26, .inl ia)), ((aa 17), .inr (3, [.ref (aa 18), .ref (aa 20), .int (zz + 1), .int po, .int me, .int ml])), ((aa 18), .inr (1, [.ref (aa 19)])), ((aa 19), .inl (z 0, 40, .inl (cSet 40 lt zz letter))), ((aa 20), .inr (1, [.ref (aa 21)])), ((aa 21), .inl (z 0, 40, .inl ty)), ((aa 22), .inr (5, [.ref (aa 23), .int sn])), ((aa 23), .inr (1, [.ref (aa 24)])), ((aa 24), .inl (z 0, 100, .inl kp)), ((aa 25), .inr (1, [.ref (aa 26)])), ((aa 26), .inl (z 0, 5, .inl ek)), ((aa 27), .inr (1, [.ref (aa 28)])), ((aa 28), .inl (z 0, 8, .inl ef))] := hD
      exact wr_i hx hb hr hlocks hP hD hS dL_act_129 rfl rfl (by omega) (by omega)
set_option maxHeartbeats 8000000 in
set_option maxRecDepth 100000 in
theorem act_t1 {N : Nat} {pl lo ct ti sh pr ia lt ty kp ek ef : Fn} {wt wh zz po me ml sn dy : Int32} (hI : CI N pl lo ct ti sh pr ia lt ty kp ek ef wt wh zz po me ml sn dy) (hN : N < 1000) (v odd how letter millis : Int32) (k0 : 6 ≤ how) (k1 : ¬ 20 ≤ how) : ∃ (S9 : Co) (a : Int32), CIN (N + 1) S9 ∧ (a = -99999 → S9 = (pl, lo, ct, ti, sh, pr, ia, lt, ty, kp, ek, ef, wt, wh, zz, po, me, ml, sn, dy)) ∧ ACTX (pl, lo, ct, ti, sh, pr, ia, lt, ty, kp, ek, ef, wt, wh, zz, po, me, ml, sn, dy) S9 a v odd how letter millis 114 := by
  have ⟨zn, hzz, hz40, hlt9, ps, hpo, hps, hty9⟩ := hI.1.2.2.2.1
  by_cases hm : lSh v 16 &&& 3 ≤ 0
  · by_cases e0 : bW letter 0 25 = 0
    · refine ⟨(pl, lo, ct, ti, sh, pr, ia, lt, ty, kp, ek, ef, wt, wh, zz, po, me, ml, sn, dy), -99999, CI_mono hI, fun _ => rfl, ?_⟩
      intro p l e s m below meth c D z q aa A H locs G hP hD hS ls hl
      obtain ⟨hx, hb, hr, hml, hts, hown, hlocks, hE, hA, hlt⟩ := G
      have hP : va_P D vwCl (coL z aa pl lo ct ti sh pr ia lt ty kp ek ef wt wh zz po me ml sn dy) H := hP
      have hD : va_D A (coL z aa pl lo ct ti sh pr ia lt ty kp ek ef wt wh zz po me ml sn dy) := hD
      refine lv_iload_n hx hb dL_act_114 rfl (lv_at hl 1 rfl) ?_
      refine lv_bipush (v := 6) hx hb dL_act_115 (by decide) ?_
      refine lv_icmp_ge (tgt := 130) hx hb dL_act_117 (by decide) (fun c_1 => ?_) (fun c_1 => absurd k0 c_1)
      refine lv_iload_n hx hb dL_act_130 rfl (lv_at hl 1 rfl) ?_
      refine lv_bipush (v := 20) hx hb dL_act_131 (by decide) ?_
      refine lv_icmp_ge (tgt := 190) hx hb dL_act_133 (by decide) (fun c_2 => absurd c_2 k1) (fun c_2 => ?_)
      refine lv_iload_n hx hb dL_act_136 rfl (lv_at hl 5 rfl) ?_
      refine lv_bipush (v := 16) hx hb dL_act_137 (by decide) ?_
      refine lv_ishr hx hb dL_act_139 ?_
      refine lv_iconst (v := 3) hx hb dL_act_140 (by decide) ?_
      refine lv_iand hx hb dL_act_141 ?_
      refine lv_if_le (tgt := 160) hx hb dL_act_142 (by decide) (fun c_3 => ?_) (fun c_3 => absurd hm c_3)
      refine lv_iconst (v := 0) hx hb dL_act_160 (by decide) ?_
      refine lv_istore (lv' := [(6, .int 0), (2, .int odd), (3, .int how), (4, .int letter), (5, .int millis), (0, .ref (aa 0)), (1, .int v)]) hx hb dL_act_161 hl (by decide) rfl (fun ls hl => ?_)
      refine lv_aload_n hx hb dL_act_163 rfl (lv_at hl 5 rfl) ?_
      refine lv_iconst (v := 3) hx hb dL_act_164 (by decide) ?_
      refine lv_iload hx hb dL_act_165 (lv_at hl 0 rfl) ?_
      refine lv_if_eq (tgt := 181) hx hb dL_act_167 (by decide) (fun _ => ?_) (fun c_4 => absurd (by decide) c_4)
      refine lv_iload hx hb dL_act_181 (lv_at hl 3 rfl) ?_
      refine lv_iload hx hb dL_act_183 (lv_at hl 4 rfl) ?_
      refine lv_iconst (v := 0) hx hb dL_act_185 (by decide) ?_
      refine hwS (As := [.ref (aa 0), .int 3, .int letter, .int millis, .int 0]) (rest := []) ⟨hx, hb, hml, hown, hts⟩ (c_L_does_3_0 l D z q (aa 0) (aa 1) (aa 6) (aa 15) (aa 17) (aa 22) (aa 25) (aa 27) dy (aa 2) (aa 3) (aa 4) (aa 5) pl lo (aa 7) (aa 8) (aa 9) (aa 10) (aa 11) (aa 12) (aa 13) (aa 14) ct ti sh pr wt wh (aa 18) (aa 19) (aa 20) (aa 21) lt ty zz po me ml (aa 26) ek (aa 28) ef (tAt lt zz po) (kKind pl lo lt ty zz po letter (tAt lt zz po)) _ _ _ _ _ _ _ letter millis 0 H.size rfl rfl rfl rfl rfl rfl rfl rfl rfl e0 hlt) (vx_cwSW 5 hts gL_act_L_does rfl rfl rfl hd_L_does ⟨Nat.le_of_ble_eq_true rfl, Nat.le_of_ble_eq_true rfl⟩) hE hS hA hP hD [0, 1, 2, 3, 4, 5, 6, 7, 8, 9, 10, 11, 12, 13, 14, 17, 18, 19, 20, 21, 25, 26, 27, 28] rfl rfl rfl rfl hl.1 rfl (Nat.le_of_ble_eq_true rfl) dL_act_186 ⟨(by show 0 + 3 ≤ 6; omega), (by show 0 + 18 ≤ 36; omega)⟩ (fun H locs hP hD hS => ?_)
      have hP : va_P D vwCl [((aa 0), .inr (6, [.ref (aa 1), .ref (aa 6), .ref (aa 15), .ref (aa 17), .ref (aa 22), .ref (aa 25), .ref (aa 27), .int dy])), ((aa 1), .inr (0, [.ref (aa 2), .ref (aa 4)])), ((aa 2), .inr (1, [.ref (aa 3)])), ((aa 3), .inl (z 0, 26, .inl pl)), ((aa 4), .inr (1, [.ref (aa 5)])), ((aa 5), .inl (z 0, 30, .inl lo)), ((aa 6), .inr (2, [.ref (aa 7), .ref (aa 9), .ref (aa 11), .ref (aa 13), .int wt, .int wh])), ((aa 7), .inr (1, [.ref (aa 8)])), ((aa 8), .inl (z 0, 26, .inl ct)), ((aa 9), .inr (1, [.ref (aa 10)])), ((aa 10), .inl (z 0, 26, .inl ti)), ((aa 11), .inr (1, [.ref (aa 12)])), ((aa 12), .inl (z 0, 26, .inl sh)), ((aa 13), .inr (1, [.ref (aa 14)])), ((aa 14), .inl (z 0, 676, .inl pr)), ((aa 15), .inr (4, [.ref (aa 16), .ref (aa 6)])), ((aa 16), .inl (z 1, 26, .inl ia)), ((aa 17), .inr (3, [.ref (aa 18), .ref (aa 20), .int zz, .int po, .int me, .int ml])), ((aa 18), .inr (1, [.ref (aa 19)])), ((aa 19), .inl (z 0, 40, .inl lt)), ((aa 20), .inr (1, [.ref (aa 21)])), ((aa 21), .inl (z 0, 40, .inl ty)), ((aa 22), .inr (5, [.ref (aa 23), .int sn])), ((aa 23), .inr (1, [.ref (aa 24)])), ((aa 24), .inl (z 0, 100, .inl kp)), ((aa 25), .inr (1, [.ref (aa 26)])), ((aa 26), .inl (z 0, 5, .inl ek)), ((aa 27), .inr (1, [.ref (aa 28)])), ((aa 28), .inl (z 0, 8, .inl ef))] H := hP
      have hD : va_D A [((aa 0), .inr (6, [.ref (aa 1), .ref (aa 6), .ref (aa 15), .ref (aa 17), .ref (aa 22), .ref (aa 25), .ref (aa 27), .int dy])), ((aa 1), .inr (0, [.ref (aa 2), .ref (aa 4)])), ((aa 2), .inr (1, [.ref (aa 3)])), ((aa 3), .inl (z 0, 26, .inl pl)), ((aa 4), .inr (1, [.ref (aa 5)])), ((aa 5), .inl (z 0, 30, .inl lo)), ((aa 6), .inr (2, [.ref (aa 7), .ref (aa 9), .ref (aa 11), .ref (aa 13), .int wt, .int wh])), ((aa 7), .inr (1, [.ref (aa 8)])), ((aa 8), .inl (z 0, 26, .inl ct)), ((aa 9), .inr (1, [.ref (aa 10)])), ((aa 10), .inl (z 0, 26, .inl ti)), ((aa 11), .inr (1, [.ref (aa 12)])), ((aa 12), .inl (z 0, 26, .inl sh)), ((aa 13), .inr (1, [.ref (aa 14)])), ((aa 14), .inl (z 0, 676, .inl pr)), ((aa 15), .inr (4, [.ref (aa 16), .ref (aa 6)])), ((aa 16), .inl (z 1, 26, .inl ia)), ((aa 17), .inr (3, [.ref (aa 18), .ref (aa 20), .int zz, .int po, .int me, .int ml])), ((aa 18), .inr (1, [.ref (aa 19)])), ((aa 19), .inl (z 0, 40, .inl lt)), ((aa 20), .inr (1, [.ref (aa 21)])), ((aa 21), .inl (z 0, 40, .inl ty)), ((aa 22), .inr (5, [.ref (aa 23), .int sn])), ((aa 23), .inr (1, [.ref (aa 24)])), ((aa 24), .inl (z 0, 100, .inl kp)), ((aa 25), .inr (1, [.ref (aa 26)])), ((aa 26), .inl (z 0, 5, .inl ek)), ((aa 27), .inr (1, [.ref (aa 28)])), ((aa 28), .inl (z 0, 8, .inl ef))] := hD
      exact wr_i hx hb hr hlocks hP hD hS dL_act_189 rfl rfl (by omega) (by omega)
    · by_cases e1 : bW millis 1 5000 = 0
      · refine ⟨(pl, lo, ct, ti, sh, pr, ia, lt, ty, kp, ek, ef, wt, wh, zz, po, me, ml, sn, dy), -99999, CI_mono hI, fun _ => rfl, ?_⟩
        intro p l e s m below meth c D z q aa A H locs G hP hD hS ls hl
        obtain ⟨hx, hb, hr, hml, hts, hown, hlocks, hE, hA, hlt⟩ := G
        have hP : va_P D vwCl (coL z aa pl lo ct ti sh pr ia lt ty kp ek ef wt wh zz po me ml sn dy) H := hP
        have hD : va_D A (coL z aa pl lo ct ti sh pr ia lt ty kp ek ef wt wh zz po me ml sn dy) := hD
        refine lv_iload_n hx hb dL_act_114 rfl (lv_at hl 1 rfl) ?_
        refine lv_bipush (v := 6) hx hb dL_act_115 (by decide) ?_
        refine lv_icmp_ge (tgt := 130) hx hb dL_act_117 (by decide) (fun c_1 => ?_) (fun c_1 => absurd k0 c_1)
        refine lv_iload_n hx hb dL_act_130 rfl (lv_at hl 1 rfl) ?_
        refine lv_bipush (v := 20) hx hb dL_act_131 (by decide) ?_
        refine lv_icmp_ge (tgt := 190) hx hb dL_act_133 (by decide) (fun c_2 => absurd c_2 k1) (fun c_2 => ?_)
        refine lv_iload_n hx hb dL_act_136 rfl (lv_at hl 5 rfl) ?_
        refine lv_bipush (v := 16) hx hb dL_act_137 (by decide) ?_
        refine lv_ishr hx hb dL_act_139 ?_
        refine lv_iconst (v := 3) hx hb dL_act_140 (by decide) ?_
        refine lv_iand hx hb dL_act_141 ?_
        refine lv_if_le (tgt := 160) hx hb dL_act_142 (by decide) (fun c_3 => ?_) (fun c_3 => absurd hm c_3)
        refine lv_iconst (v := 0) hx hb dL_act_160 (by decide) ?_
        refine lv_istore (lv' := [(6, .int 0), (2, .int odd), (3, .int how), (4, .int letter), (5, .int millis), (0, .ref (aa 0)), (1, .int v)]) hx hb dL_act_161 hl (by decide) rfl (fun ls hl => ?_)
        refine lv_aload_n hx hb dL_act_163 rfl (lv_at hl 5 rfl) ?_
        refine lv_iconst (v := 3) hx hb dL_act_164 (by decide) ?_
        refine lv_iload hx hb dL_act_165 (lv_at hl 0 rfl) ?_
        refine lv_if_eq (tgt := 181) hx hb dL_act_167 (by decide) (fun _ => ?_) (fun c_4 => absurd (by decide) c_4)
        refine lv_iload hx hb dL_act_181 (lv_at hl 3 rfl) ?_
        refine lv_iload hx hb dL_act_183 (lv_at hl 4 rfl) ?_
        refine lv_iconst (v := 0) hx hb dL_act_185 (by decide) ?_
        refine hwS (As := [.ref (aa 0), .int 3, .int letter, .int millis, .int 0]) (rest := []) ⟨hx, hb, hml, hown, hts⟩ (c_L_does_3_1 l D z q (aa 0) (aa 1) (aa 6) (aa 15) (aa 17) (aa 22) (aa 25) (aa 27) dy (aa 2) (aa 3) (aa 4) (aa 5) pl lo (aa 7) (aa 8) (aa 9) (aa 10) (aa 11) (aa 12) (aa 13) (aa 14) ct ti sh pr wt wh (aa 18) (aa 19) (aa 20) (aa 21) lt ty zz po me ml (aa 26) ek (aa 28) ef (tAt lt zz po) (kKind pl lo lt ty zz po letter (tAt lt zz po)) _ _ _ _ _ _ _ letter millis 0 H.size rfl rfl rfl rfl rfl rfl rfl rfl rfl e0 e1 hlt) (vx_cwSW 5 hts gL_act_L_does rfl rfl rfl hd_L_does ⟨Nat.le_of_ble_eq_true rfl, Nat.le_of_ble_eq_true rfl⟩) hE hS hA hP hD [0, 1, 2, 3, 4, 5, 6, 7, 8, 9, 10, 11, 12, 13, 14, 17, 18, 19, 20, 21, 25, 26, 27, 28] rfl rfl rfl rfl hl.1 rfl (Nat.le_of_ble_eq_true rfl) dL_act_186 ⟨(by show 0 + 3 ≤ 6; omega), (by show 0 + 18 ≤ 36; omega)⟩ (fun H locs hP hD hS => ?_)
        have hP : va_P D vwCl [((aa 0), .inr (6, [.ref (aa 1), .ref (aa 6), .ref (aa 15), .ref (aa 17), .ref (aa 22), .ref (aa 25), .ref (aa 27), .int dy])), ((aa 1), .inr (0, [.ref (aa 2), .ref (aa 4)])), ((aa 2), .inr (1, [.ref (aa 3)])), ((aa 3), .inl (z 0, 26, .inl pl)), ((aa 4), .inr (1, [.ref (aa 5)])), ((aa 5), .inl (z 0, 30, .inl lo)), ((aa 6), .inr (2, [.ref (aa 7), .ref (aa 9), .ref (aa 11), .ref (aa 13), .int wt, .int wh])), ((aa 7), .inr (1, [.ref (aa 8)])), ((aa 8), .inl (z 0, 26, .inl ct)), ((aa 9), .inr (1, [.ref (aa 10)])), ((aa 10), .inl (z 0, 26, .inl ti)), ((aa 11), .inr (1, [.ref (aa 12)])), ((aa 12), .inl (z 0, 26, .inl sh)), ((aa 13), .inr (1, [.ref (aa 14)])), ((aa 14), .inl (z 0, 676, .inl pr)), ((aa 15), .inr (4, [.ref (aa 16), .ref (aa 6)])), ((aa 16), .inl (z 1, 26, .inl ia)), ((aa 17), .inr (3, [.ref (aa 18), .ref (aa 20), .int zz, .int po, .int me, .int ml])), ((aa 18), .inr (1, [.ref (aa 19)])), ((aa 19), .inl (z 0, 40, .inl lt)), ((aa 20), .inr (1, [.ref (aa 21)])), ((aa 21), .inl (z 0, 40, .inl ty)), ((aa 22), .inr (5, [.ref (aa 23), .int sn])), ((aa 23), .inr (1, [.ref (aa 24)])), ((aa 24), .inl (z 0, 100, .inl kp)), ((aa 25), .inr (1, [.ref (aa 26)])), ((aa 26), .inl (z 0, 5, .inl ek)), ((aa 27), .inr (1, [.ref (aa 28)])), ((aa 28), .inl (z 0, 8, .inl ef))] H := hP
        have hD : va_D A [((aa 0), .inr (6, [.ref (aa 1), .ref (aa 6), .ref (aa 15), .ref (aa 17), .ref (aa 22), .ref (aa 25), .ref (aa 27), .int dy])), ((aa 1), .inr (0, [.ref (aa 2), .ref (aa 4)])), ((aa 2), .inr (1, [.ref (aa 3)])), ((aa 3), .inl (z 0, 26, .inl pl)), ((aa 4), .inr (1, [.ref (aa 5)])), ((aa 5), .inl (z 0, 30, .inl lo)), ((aa 6), .inr (2, [.ref (aa 7), .ref (aa 9), .ref (aa 11), .ref (aa 13), .int wt, .int wh])), ((aa 7), .inr (1, [.ref (aa 8)])), ((aa 8), .inl (z 0, 26, .inl ct)), ((aa 9), .inr (1, [.ref (aa 10)])), ((aa 10), .inl (z 0, 26, .inl ti)), ((aa 11), .inr (1, [.ref (aa 12)])), ((aa 12), .inl (z 0, 26, .inl sh)), ((aa 13), .inr (1, [.ref (aa 14)])), ((aa 14), .inl (z 0, 676, .inl pr)), ((aa 15), .inr (4, [.ref (aa 16), .ref (aa 6)])), ((aa 16), .inl (z 1, 26, .inl ia)), ((aa 17), .inr (3, [.ref (aa 18), .ref (aa 20), .int zz, .int po, .int me, .int ml])), ((aa 18), .inr (1, [.ref (aa 19)])), ((aa 19), .inl (z 0, 40, .inl lt)), ((aa 20), .inr (1, [.ref (aa 21)])), ((aa 21), .inl (z 0, 40, .inl ty)), ((aa 22), .inr (5, [.ref (aa 23), .int sn])), ((aa 23), .inr (1, [.ref (aa 24)])), ((aa 24), .inl (z 0, 100, .inl kp)), ((aa 25), .inr (1, [.ref (aa 26)])), ((aa 26), .inl (z 0, 5, .inl ek)), ((aa 27), .inr (1, [.ref (aa 28)])), ((aa 28), .inl (z 0, 8, .inl ef))] := hD
        exact wr_i hx hb hr hlocks hP hD hS dL_act_189 rfl rfl (by omega) (by omega)
      · by_cases e2 : tAt lt zz po = -1
        · refine ⟨(pl, lo, ct, ti, sh, pr, ia, lt, ty, kp, ek, ef, wt, wh, zz, po, me, ml, sn, dy), -99999, CI_mono hI, fun _ => rfl, ?_⟩
          intro p l e s m below meth c D z q aa A H locs G hP hD hS ls hl
          obtain ⟨hx, hb, hr, hml, hts, hown, hlocks, hE, hA, hlt⟩ := G
          have hP : va_P D vwCl (coL z aa pl lo ct ti sh pr ia lt ty kp ek ef wt wh zz po me ml sn dy) H := hP
          have hD : va_D A (coL z aa pl lo ct ti sh pr ia lt ty kp ek ef wt wh zz po me ml sn dy) := hD
          refine lv_iload_n hx hb dL_act_114 rfl (lv_at hl 1 rfl) ?_
          refine lv_bipush (v := 6) hx hb dL_act_115 (by decide) ?_
          refine lv_icmp_ge (tgt := 130) hx hb dL_act_117 (by decide) (fun c_1 => ?_) (fun c_1 => absurd k0 c_1)
          refine lv_iload_n hx hb dL_act_130 rfl (lv_at hl 1 rfl) ?_
          refine lv_bipush (v := 20) hx hb dL_act_131 (by decide) ?_
          refine lv_icmp_ge (tgt := 190) hx hb dL_act_133 (by decide) (fun c_2 => absurd c_2 k1) (fun c_2 => ?_)
          refine lv_iload_n hx hb dL_act_136 rfl (lv_at hl 5 rfl) ?_
          refine lv_bipush (v := 16) hx hb dL_act_137 (by decide) ?_
          refine lv_ishr hx hb dL_act_139 ?_
          refine lv_iconst (v := 3) hx hb dL_act_140 (by decide) ?_
          refine lv_iand hx hb dL_act_141 ?_
          refine lv_if_le (tgt := 160) hx hb dL_act_142 (by decide) (fun c_3 => ?_) (fun c_3 => absurd hm c_3)
          refine lv_iconst (v := 0) hx hb dL_act_160 (by decide) ?_
          refine lv_istore (lv' := [(6, .int 0), (2, .int odd), (3, .int how), (4, .int letter), (5, .int millis), (0, .ref (aa 0)), (1, .int v)]) hx hb dL_act_161 hl (by decide) rfl (fun ls hl => ?_)
          refine lv_aload_n hx hb dL_act_163 rfl (lv_at hl 5 rfl) ?_
          refine lv_iconst (v := 3) hx hb dL_act_164 (by decide) ?_
          refine lv_iload hx hb dL_act_165 (lv_at hl 0 rfl) ?_
          refine lv_if_eq (tgt := 181) hx hb dL_act_167 (by decide) (fun _ => ?_) (fun c_4 => absurd (by decide) c_4)
          refine lv_iload hx hb dL_act_181 (lv_at hl 3 rfl) ?_
          refine lv_iload hx hb dL_act_183 (lv_at hl 4 rfl) ?_
          refine lv_iconst (v := 0) hx hb dL_act_185 (by decide) ?_
          refine hwS (As := [.ref (aa 0), .int 3, .int letter, .int millis, .int 0]) (rest := []) ⟨hx, hb, hml, hown, hts⟩ (c_L_does_3_2 l D z q (aa 0) (aa 1) (aa 6) (aa 15) (aa 17) (aa 22) (aa 25) (aa 27) dy (aa 2) (aa 3) (aa 4) (aa 5) pl lo (aa 7) (aa 8) (aa 9) (aa 10) (aa 11) (aa 12) (aa 13) (aa 14) ct ti sh pr wt wh (aa 18) (aa 19) (aa 20) (aa 21) lt ty zz po me ml (aa 26) ek (aa 28) ef (tAt lt zz po) (kKind pl lo lt ty zz po letter (tAt lt zz po)) _ _ _ _ _ _ _ letter millis 0 H.size rfl rfl rfl rfl rfl rfl rfl rfl rfl e0 e1 e2 hlt) (vx_cwSW 5 hts gL_act_L_does rfl rfl rfl hd_L_does ⟨Nat.le_of_ble_eq_true rfl, Nat.le_of_ble_eq_true rfl⟩) hE hS hA hP hD [0, 1, 2, 3, 4, 5, 6, 7, 8, 9, 10, 11, 12, 13, 14, 17, 18, 19, 20, 21, 25, 26, 27, 28] rfl rfl rfl rfl hl.1 rfl (Nat.le_of_ble_eq_true rfl) dL_act_186 ⟨(by show 0 + 3 ≤ 6; omega), (by show 0 + 18 ≤ 36; omega)⟩ (fun H locs hP hD hS => ?_)
          have hP : va_P D vwCl [((aa 0), .inr (6, [.ref (aa 1), .ref (aa 6), .ref (aa 15), .ref (aa 17), .ref (aa 22), .ref (aa 25), .ref (aa 27), .int dy])), ((aa 1), .inr (0, [.ref (aa 2), .ref (aa 4)])), ((aa 2), .inr (1, [.ref (aa 3)])), ((aa 3), .inl (z 0, 26, .inl pl)), ((aa 4), .inr (1, [.ref (aa 5)])), ((aa 5), .inl (z 0, 30, .inl lo)), ((aa 6), .inr (2, [.ref (aa 7), .ref (aa 9), .ref (aa 11), .ref (aa 13), .int wt, .int wh])), ((aa 7), .inr (1, [.ref (aa 8)])), ((aa 8), .inl (z 0, 26, .inl ct)), ((aa 9), .inr (1, [.ref (aa 10)])), ((aa 10), .inl (z 0, 26, .inl ti)), ((aa 11), .inr (1, [.ref (aa 12)])), ((aa 12), .inl (z 0, 26, .inl sh)), ((aa 13), .inr (1, [.ref (aa 14)])), ((aa 14), .inl (z 0, 676, .inl pr)), ((aa 15), .inr (4, [.ref (aa 16), .ref (aa 6)])), ((aa 16), .inl (z 1, 26, .inl ia)), ((aa 17), .inr (3, [.ref (aa 18), .ref (aa 20), .int zz, .int po, .int me, .int ml])), ((aa 18), .inr (1, [.ref (aa 19)])), ((aa 19), .inl (z 0, 40, .inl lt)), ((aa 20), .inr (1, [.ref (aa 21)])), ((aa 21), .inl (z 0, 40, .inl ty)), ((aa 22), .inr (5, [.ref (aa 23), .int sn])), ((aa 23), .inr (1, [.ref (aa 24)])), ((aa 24), .inl (z 0, 100, .inl kp)), ((aa 25), .inr (1, [.ref (aa 26)])), ((aa 26), .inl (z 0, 5, .inl ek)), ((aa 27), .inr (1, [.ref (aa 28)])), ((aa 28), .inl (z 0, 8, .inl ef))] H := hP
          have hD : va_D A [((aa 0), .inr (6, [.ref (aa 1), .ref (aa 6), .ref (aa 15), .ref (aa 17), .ref (aa 22), .ref (aa 25), .ref (aa 27), .int dy])), ((aa 1), .inr (0, [.ref (aa 2), .ref (aa 4)])), ((aa 2), .inr (1, [.ref (aa 3)])), ((aa 3), .inl (z 0, 26, .inl pl)), ((aa 4), .inr (1, [.ref (aa 5)])), ((aa 5), .inl (z 0, 30, .inl lo)), ((aa 6), .inr (2, [.ref (aa 7), .ref (aa 9), .ref (aa 11), .ref (aa 13), .int wt, .int wh])), ((aa 7), .inr (1, [.ref (aa 8)])), ((aa 8), .inl (z 0, 26, .inl ct)), ((aa 9), .inr (1, [.ref (aa 10)])), ((aa 10), .inl (z 0, 26, .inl ti)), ((aa 11), .inr (1, [.ref (aa 12)])), ((aa 12), .inl (z 0, 26, .inl sh)), ((aa 13), .inr (1, [.ref (aa 14)])), ((aa 14), .inl (z 0, 676, .inl pr)), ((aa 15), .inr (4, [.ref (aa 16), .ref (aa 6)])), ((aa 16), .inl (z 1, 26, .inl ia)), ((aa 17), .inr (3, [.ref (aa 18), .ref (aa 20), .int zz, .int po, .int me, .int ml])), ((aa 18), .inr (1, [.ref (aa 19)])), ((aa 19), .inl (z 0, 40, .inl lt)), ((aa 20), .inr (1, [.ref (aa 21)])), ((aa 21), .inl (z 0, 40, .inl ty)), ((aa 22), .inr (5, [.ref (aa 23), .int sn])), ((aa 23), .inr (1, [.ref (aa 24)])), ((aa 24), .inl (z 0, 100, .inl kp)), ((aa 25), .inr (1, [.ref (aa 26)])), ((aa 26), .inl (z 0, 5, .inl ek)), ((aa 27), .inr (1, [.ref (aa 28)])), ((aa 28), .inl (z 0, 8, .inl ef))] := hD
          exact wr_i hx hb hr hlocks hP hD hS dL_act_189 rfl rfl (by omega) (by omega)
        · obtain ⟨du, kd, ct1, ti1, sh1, pr1, ty1, ek1, ef1, ⟨hdu, hkd, hct, hti, hsh, hpr, hty, hek, hef⟩, ⟨-, -, -, -, -, -, -, -, -, -, -, -, hkn⟩, hC⟩ := CI_stroke hI e0 e1 e2
          refine ⟨(pl, lo, ct1, ti1, sh1, pr1, ia, lt, ty1, kp, ek1, ef1, wt, wh, zz, po + 1, me, ml + millis, sn, dy + 1), kd, hC, fun h => absurd h hkn, ?_⟩
          intro p l e s m below meth c D z q aa A H locs G hP hD hS ls hl
          obtain ⟨hx, hb, hr, hml, hts, hown, hlocks, hE, hA, hlt⟩ := G
          have hP : va_P D vwCl (coL z aa pl lo ct ti sh pr ia lt ty kp ek ef wt wh zz po me ml sn dy) H := hP
          have hD : va_D A (coL z aa pl lo ct ti sh pr ia lt ty kp ek ef wt wh zz po me ml sn dy) := hD
          refine lv_iload_n hx hb dL_act_114 rfl (lv_at hl 1 rfl) ?_
          refine lv_bipush (v := 6) hx hb dL_act_115 (by decide) ?_
          refine lv_icmp_ge (tgt := 130) hx hb dL_act_117 (by decide) (fun c_1 => ?_) (fun c_1 => absurd k0 c_1)
          refine lv_iload_n hx hb dL_act_130 rfl (lv_at hl 1 rfl) ?_
          refine lv_bipush (v := 20) hx hb dL_act_131 (by decide) ?_
          refine lv_icmp_ge (tgt := 190) hx hb dL_act_133 (by decide) (fun c_2 => absurd c_2 k1) (fun c_2 => ?_)
          refine lv_iload_n hx hb dL_act_136 rfl (lv_at hl 5 rfl) ?_
          refine lv_bipush (v := 16) hx hb dL_act_137 (by decide) ?_
          refine lv_ishr hx hb dL_act_139 ?_
          refine lv_iconst (v := 3) hx hb dL_act_140 (by decide) ?_
          refine lv_iand hx hb dL_act_141 ?_
          refine lv_if_le (tgt := 160) hx hb dL_act_142 (by decide) (fun c_3 => ?_) (fun c_3 => absurd hm c_3)
          refine lv_iconst (v := 0) hx hb dL_act_160 (by decide) ?_
          refine lv_istore (lv' := [(6, .int 0), (2, .int odd), (3, .int how), (4, .int letter), (5, .int millis), (0, .ref (aa 0)), (1, .int v)]) hx hb dL_act_161 hl (by decide) rfl (fun ls hl => ?_)
          refine lv_aload_n hx hb dL_act_163 rfl (lv_at hl 5 rfl) ?_
          refine lv_iconst (v := 3) hx hb dL_act_164 (by decide) ?_
          refine lv_iload hx hb dL_act_165 (lv_at hl 0 rfl) ?_
          refine lv_if_eq (tgt := 181) hx hb dL_act_167 (by decide) (fun _ => ?_) (fun c_4 => absurd (by decide) c_4)
          refine lv_iload hx hb dL_act_181 (lv_at hl 3 rfl) ?_
          refine lv_iload hx hb dL_act_183 (lv_at hl 4 rfl) ?_
          refine lv_iconst (v := 0) hx hb dL_act_185 (by decide) ?_
          refine hwS (As := [.ref (aa 0), .int 3, .int letter, .int millis, .int 0]) (rest := []) ⟨hx, hb, hml, hown, hts⟩ (c_L_does_3_3 l D z q (aa 0) (aa 1) (aa 6) (aa 15) (aa 17) (aa 22) (aa 25) (aa 27) dy (aa 2) (aa 3) (aa 4) (aa 5) pl lo (aa 7) (aa 8) (aa 9) (aa 10) (aa 11) (aa 12) (aa 13) (aa 14) ct ti sh pr wt wh (aa 18) (aa 19) (aa 20) (aa 21) lt ty zz po me ml (aa 26) ek (aa 28) ef du kd ct1 ti1 sh1 pr1 ty1 ek1 ef1 letter millis 0 H.size hdu hkd hct hti hsh hpr hty hek hef e0 e1 e2 hlt) (vx_cwSW 5 hts gL_act_L_does rfl rfl rfl hd_L_does ⟨Nat.le_of_ble_eq_true rfl, Nat.le_of_ble_eq_true rfl⟩) hE hS hA hP hD [0, 1, 2, 3, 4, 5, 6, 7, 8, 9, 10, 11, 12, 13, 14, 17, 18, 19, 20, 21, 25, 26, 27, 28] rfl rfl rfl rfl hl.1 rfl (Nat.le_of_ble_eq_true rfl) dL_act_186 ⟨(by show 0 + 3 ≤ 6; omega), (by show 0 + 18 ≤ 36; omega)⟩ (fun H locs hP hD hS => ?_)
          have hP : va_P D vwCl [((aa 0), .inr (6, [.ref (aa 1), .ref (aa 6), .ref (aa 15), .ref (aa 17), .ref (aa 22), .ref (aa 25), .ref (aa 27), .int (dy + 1)])), ((aa 1), .inr (0, [.ref (aa 2), .ref (aa 4)])), ((aa 2), .inr (1, [.ref (aa 3)])), ((aa 3), .inl (z 0, 26, .inl pl)), ((aa 4), .inr (1, [.ref (aa 5)])), ((aa 5), .inl (z 0, 30, .inl lo)), ((aa 6), .inr (2, [.ref (aa 7), .ref (aa 9), .ref (aa 11), .ref (aa 13), .int wt, .int wh])), ((aa 7), .inr (1, [.ref (aa 8)])), ((aa 8), .inl (z 0, 26, .inl ct1)), ((aa 9), .inr (1, [.ref (aa 10)])), ((aa 10), .inl (z 0, 26, .inl ti1)), ((aa 11), .inr (1, [.ref (aa 12)])), ((aa 12), .inl (z 0, 26, .inl sh1)), ((aa 13), .inr (1, [.ref (aa 14)])), ((aa 14), .inl (z 0, 676, .inl pr1)), ((aa 15), .inr (4, [.ref (aa 16), .ref (aa 6)])), ((aa 16), .inl (z 1, 26, .inl ia)), ((aa 17), .inr (3, [.ref (aa 18), .ref (aa 20), .int zz, .int (po + 1), .int me, .int (ml + millis)])), ((aa 18), .inr (1, [.ref (aa 19)])), ((aa 19), .inl (z 0, 40, .inl lt)), ((aa 20), .inr (1, [.ref (aa 21)])), ((aa 21), .inl (z 0, 40, .inl ty1)), ((aa 22), .inr (5, [.ref (aa 23), .int sn])), ((aa 23), .inr (1, [.ref (aa 24)])), ((aa 24), .inl (z 0, 100, .inl kp)), ((aa 25), .inr (1, [.ref (aa 26)])), ((aa 26), .inl (z 0, 5, .inl ek1)), ((aa 27), .inr (1, [.ref (aa 28)])), ((aa 28), .inl (z 0, 8, .inl ef1))] H := hP
          have hD : va_D A [((aa 0), .inr (6, [.ref (aa 1), .ref (aa 6), .ref (aa 15), .ref (aa 17), .ref (aa 22), .ref (aa 25), .ref (aa 27), .int (dy + 1)])), ((aa 1), .inr (0, [.ref (aa 2), .ref (aa 4)])), ((aa 2), .inr (1, [.ref (aa 3)])), ((aa 3), .inl (z 0, 26, .inl pl)), ((aa 4), .inr (1, [.ref (aa 5)])), ((aa 5), .inl (z 0, 30, .inl lo)), ((aa 6), .inr (2, [.ref (aa 7), .ref (aa 9), .ref (aa 11), .ref (aa 13), .int wt, .int wh])), ((aa 7), .inr (1, [.ref (aa 8)])), ((aa 8), .inl (z 0, 26, .inl ct1)), ((aa 9), .inr (1, [.ref (aa 10)])), ((aa 10), .inl (z 0, 26, .inl ti1)), ((aa 11), .inr (1, [.ref (aa 12)])), ((aa 12), .inl (z 0, 26, .inl sh1)), ((aa 13), .inr (1, [.ref (aa 14)])), ((aa 14), .inl (z 0, 676, .inl pr1)), ((aa 15), .inr (4, [.ref (aa 16), .ref (aa 6)])), ((aa 16), .inl (z 1, 26, .inl ia)), ((aa 17), .inr (3, [.ref (aa 18), .ref (aa 20), .int zz, .int (po + 1), .int me, .int (ml + millis)])), ((aa 18), .inr (1, [.ref (aa 19)])), ((aa 19), .inl (z 0, 40, .inl lt)), ((aa 20), .inr (1, [.ref (aa 21)])), ((aa 21), .inl (z 0, 40, .inl ty1)), ((aa 22), .inr (5, [.ref (aa 23), .int sn])), ((aa 23), .inr (1, [.ref (aa 24)])), ((aa 24), .inl (z 0, 100, .inl kp)), ((aa 25), .inr (1, [.ref (aa 26)])), ((aa 26), .inl (z 0, 5, .inl ek1)), ((aa 27), .inr (1, [.ref (aa 28)])), ((aa 28), .inl (z 0, 8, .inl ef1))] := hD
          exact wr_i hx hb hr hlocks hP hD hS dL_act_189 rfl rfl (by omega) (by omega)
  · by_cases hp : zz ≤ po
    · by_cases e0 : bW letter 0 25 = 0
      · refine ⟨(pl, lo, ct, ti, sh, pr, ia, lt, ty, kp, ek, ef, wt, wh, zz, po, me, ml, sn, dy), -99999, CI_mono hI, fun _ => rfl, ?_⟩
        intro p l e s m below meth c D z q aa A H locs G hP hD hS ls hl
        obtain ⟨hx, hb, hr, hml, hts, hown, hlocks, hE, hA, hlt⟩ := G
        have hP : va_P D vwCl (coL z aa pl lo ct ti sh pr ia lt ty kp ek ef wt wh zz po me ml sn dy) H := hP
        have hD : va_D A (coL z aa pl lo ct ti sh pr ia lt ty kp ek ef wt wh zz po me ml sn dy) := hD
        refine lv_iload_n hx hb dL_act_114 rfl (lv_at hl 1 rfl) ?_
        refine lv_bipush (v := 6) hx hb dL_act_115 (by decide) ?_
        refine lv_icmp_ge (tgt := 130) hx hb dL_act_117 (by decide) (fun c_1 => ?_) (fun c_1 => absurd k0 c_1)
        refine lv_iload_n hx hb dL_act_130 rfl (lv_at hl 1 rfl) ?_
        refine lv_bipush (v := 20) hx hb dL_act_131 (by decide) ?_
        refine lv_icmp_ge (tgt := 190) hx hb dL_act_133 (by decide) (fun c_2 => absurd c_2 k1) (fun c_2 => ?_)
        refine lv_iload_n hx hb dL_act_136 rfl (lv_at hl 5 rfl) ?_
        refine lv_bipush (v := 16) hx hb dL_act_137 (by decide) ?_
        refine lv_ishr hx hb dL_act_139 ?_
        refine lv_iconst (v := 3) hx hb dL_act_140 (by decide) ?_
        refine lv_iand hx hb dL_act_141 ?_
        refine lv_if_le (tgt := 160) hx hb dL_act_142 (by decide) (fun c_3 => absurd c_3 hm) (fun c_3 => ?_)
        refine lv_aload_n hx hb dL_act_145 rfl (lv_at hl 4 rfl) ?_
        refine rdV (As := []) (rest := []) ⟨hx, hb, hml, hown, hts⟩ (c_X6_position l D z q (aa 0) (aa 1) (aa 6) (aa 15) (aa 17) (aa 22) (aa 25) (aa 27) dy (aa 18) (aa 19) (aa 20) (aa 21) lt ty zz po me ml) (cwV 0 hts gL_act_X6_position rfl rfl rfl hd_X6_position ⟨Nat.le_of_ble_eq_true rfl, Nat.le_of_ble_eq_true rfl⟩) hE hS hA hP [0, 17, 18, 19, 20, 21] rfl rfl rfl rfl rfl hl.1 rfl (Nat.le_of_ble_eq_true rfl) dL_act_146 ⟨(by show 0 + 0 ≤ 6; omega), (by show 0 + 0 ≤ 36; omega)⟩ ?_
        refine lv_aload_n hx hb dL_act_149 rfl (lv_at hl 4 rfl) ?_
        refine rdV (As := []) (rest := [.int po]) ⟨hx, hb, hml, hown, hts⟩ (c_X6_wanted l D z q (aa 0) (aa 1) (aa 6) (aa 15) (aa 17) (aa 22) (aa 25) (aa 27) dy (aa 18) (aa 19) (aa 20) (aa 21) lt ty zz po me ml) (cwV 0 hts gL_act_X6_wanted rfl rfl rfl hd_X6_wanted ⟨Nat.le_of_ble_eq_true rfl, Nat.le_of_ble_eq_true rfl⟩) hE hS hA hP [0, 17, 18, 19, 20, 21] rfl rfl rfl rfl rfl hl.1 rfl (Nat.le_of_ble_eq_true rfl) dL_act_150 ⟨(by show 0 + 0 ≤ 6; omega), (by show 0 + 0 ≤ 36; omega)⟩ ?_
        refine lv_icmp_ge (tgt := 160) hx hb dL_act_153 (by decide) (fun c_4 => ?_) (fun c_4 => absurd hp c_4)
        refine lv_iconst (v := 0) hx hb dL_act_160 (by decide) ?_
        refine lv_istore (lv' := [(6, .int 0), (2, .int odd), (3, .int how), (4, .int letter), (5, .int millis), (0, .ref (aa 0)), (1, .int v)]) hx hb dL_act_161 hl (by decide) rfl (fun ls hl => ?_)
        refine lv_aload_n hx hb dL_act_163 rfl (lv_at hl 5 rfl) ?_
        refine lv_iconst (v := 3) hx hb dL_act_164 (by decide) ?_
        refine lv_iload hx hb dL_act_165 (lv_at hl 0 rfl) ?_
        refine lv_if_eq (tgt := 181) hx hb dL_act_167 (by decide) (fun _ => ?_) (fun c_5 => absurd (by decide) c_5)
        refine lv_iload hx hb dL_act_181 (lv_at hl 3 rfl) ?_
        refine lv_iload hx hb dL_act_183 (lv_at hl 4 rfl) ?_
        refine lv_iconst (v := 0) hx hb dL_act_185 (by decide) ?_
        refine hwS (As := [.ref (aa 0), .int 3, .int letter, .int millis, .int 0]) (rest := []) ⟨hx, hb, hml, hown, hts⟩ (c_L_does_3_0 l D z q (aa 0) (aa 1) (aa 6) (aa 15) (aa 17) (aa 22) (aa 25) (aa 27) dy (aa 2) (aa 3) (aa 4) (aa 5) pl lo (aa 7) (aa 8) (aa 9) (aa 10) (aa 11) (aa 12) (aa 13) (aa 14) ct ti sh pr wt wh (aa 18) (aa 19) (aa 20) (aa 21) lt ty zz po me ml (aa 26) ek (aa 28) ef (tAt lt zz po) (kKind pl lo lt ty zz po letter (tAt lt zz po)) _ _ _ _ _ _ _ letter millis 0 H.size rfl rfl rfl rfl rfl rfl rfl rfl rfl e0 hlt) (vx_cwSW 5 hts gL_act_L_does rfl rfl rfl hd_L_does ⟨Nat.le_of_ble_eq_true rfl, Nat.le_of_ble_eq_true rfl⟩) hE hS hA hP hD [0, 1, 2, 3, 4, 5, 6, 7, 8, 9, 10, 11, 12, 13, 14, 17, 18, 19, 20, 21, 25, 26, 27, 28] rfl rfl rfl rfl hl.1 rfl (Nat.le_of_ble_eq_true rfl) dL_act_186 ⟨(by show 0 + 3 ≤ 6; omega), (by show 0 + 18 ≤ 36; omega)⟩ (fun H locs hP hD hS => ?_)
        have hP : va_P D vwCl [((aa 0), .inr (6, [.ref (aa 1), .ref (aa 6), .ref (aa 15), .ref (aa 17), .ref (aa 22), .ref (aa 25), .ref (aa 27), .int dy])), ((aa 1), .inr (0, [.ref (aa 2), .ref (aa 4)])), ((aa 2), .inr (1, [.ref (aa 3)])), ((aa 3), .inl (z 0, 26, .inl pl)), ((aa 4), .inr (1, [.ref (aa 5)])), ((aa 5), .inl (z 0, 30, .inl lo)), ((aa 6), .inr (2, [.ref (aa 7), .ref (aa 9), .ref (aa 11), .ref (aa 13), .int wt, .int wh])), ((aa 7), .inr (1, [.ref (aa 8)])), ((aa 8), .inl (z 0, 26, .inl ct)), ((aa 9), .inr (1, [.ref (aa 10)])), ((aa 10), .inl (z 0, 26, .inl ti)), ((aa 11), .inr (1, [.ref (aa 12)])), ((aa 12), .inl (z 0, 26, .inl sh)), ((aa 13), .inr (1, [.ref (aa 14)])), ((aa 14), .inl (z 0, 676, .inl pr)), ((aa 15), .inr (4, [.ref (aa 16), .ref (aa 6)])), ((aa 16), .inl (z 1, 26, .inl ia)), ((aa 17), .inr (3, [.ref (aa 18), .ref (aa 20), .int zz, .int po, .int me, .int ml])), ((aa 18), .inr (1, [.ref (aa 19)])), ((aa 19), .inl (z 0, 40, .inl lt)), ((aa 20), .inr (1, [.ref (aa 21)])), ((aa 21), .inl (z 0, 40, .inl ty)), ((aa 22), .inr (5, [.ref (aa 23), .int sn])), ((aa 23), .inr (1, [.ref (aa 24)])), ((aa 24), .inl (z 0, 100, .inl kp)), ((aa 25), .inr (1, [.ref (aa 26)])), ((aa 26), .inl (z 0, 5, .inl ek)), ((aa 27), .inr (1, [.ref (aa 28)])), ((aa 28), .inl (z 0, 8, .inl ef))] H := hP
        have hD : va_D A [((aa 0), .inr (6, [.ref (aa 1), .ref (aa 6), .ref (aa 15), .ref (aa 17), .ref (aa 22), .ref (aa 25), .ref (aa 27), .int dy])), ((aa 1), .inr (0, [.ref (aa 2), .ref (aa 4)])), ((aa 2), .inr (1, [.ref (aa 3)])), ((aa 3), .inl (z 0, 26, .inl pl)), ((aa 4), .inr (1, [.ref (aa 5)])), ((aa 5), .inl (z 0, 30, .inl lo)), ((aa 6), .inr (2, [.ref (aa 7), .ref (aa 9), .ref (aa 11), .ref (aa 13), .int wt, .int wh])), ((aa 7), .inr (1, [.ref (aa 8)])), ((aa 8), .inl (z 0, 26, .inl ct)), ((aa 9), .inr (1, [.ref (aa 10)])), ((aa 10), .inl (z 0, 26, .inl ti)), ((aa 11), .inr (1, [.ref (aa 12)])), ((aa 12), .inl (z 0, 26, .inl sh)), ((aa 13), .inr (1, [.ref (aa 14)])), ((aa 14), .inl (z 0, 676, .inl pr)), ((aa 15), .inr (4, [.ref (aa 16), .ref (aa 6)])), ((aa 16), .inl (z 1, 26, .inl ia)), ((aa 17), .inr (3, [.ref (aa 18), .ref (aa 20), .int zz, .int po, .int me, .int ml])), ((aa 18), .inr (1, [.ref (aa 19)])), ((aa 19), .inl (z 0, 40, .inl lt)), ((aa 20), .inr (1, [.ref (aa 21)])), ((aa 21), .inl (z 0, 40, .inl ty)), ((aa 22), .inr (5, [.ref (aa 23), .int sn])), ((aa 23), .inr (1, [.ref (aa 24)])), ((aa 24), .inl (z 0, 100, .inl kp)), ((aa 25), .inr (1, [.ref (aa 26)])), ((aa 26), .inl (z 0, 5, .inl ek)), ((aa 27), .inr (1, [.ref (aa 28)])), ((aa 28), .inl (z 0, 8, .inl ef))] := hD
        exact wr_i hx hb hr hlocks hP hD hS dL_act_189 rfl rfl (by omega) (by omega)
      · by_cases e1 : bW millis 1 5000 = 0
        · refine ⟨(pl, lo, ct, ti, sh, pr, ia, lt, ty, kp, ek, ef, wt, wh, zz, po, me, ml, sn, dy), -99999, CI_mono hI, fun _ => rfl, ?_⟩
          intro p l e s m below meth c D z q aa A H locs G hP hD hS ls hl
          obtain ⟨hx, hb, hr, hml, hts, hown, hlocks, hE, hA, hlt⟩ := G
          have hP : va_P D vwCl (coL z aa pl lo ct ti sh pr ia lt ty kp ek ef wt wh zz po me ml sn dy) H := hP
          have hD : va_D A (coL z aa pl lo ct ti sh pr ia lt ty kp ek ef wt wh zz po me ml sn dy) := hD
          refine lv_iload_n hx hb dL_act_114 rfl (lv_at hl 1 rfl) ?_
          refine lv_bipush (v := 6) hx hb dL_act_115 (by decide) ?_
          refine lv_icmp_ge (tgt := 130) hx hb dL_act_117 (by decide) (fun c_1 => ?_) (fun c_1 => absurd k0 c_1)
          refine lv_iload_n hx hb dL_act_130 rfl (lv_at hl 1 rfl) ?_
          refine lv_bipush (v := 20) hx hb dL_act_131 (by decide) ?_
          refine lv_icmp_ge (tgt := 190) hx hb dL_act_133 (by decide) (fun c_2 => absurd c_2 k1) (fun c_2 => ?_)
          refine lv_iload_n hx hb dL_act_136 rfl (lv_at hl 5 rfl) ?_
          refine lv_bipush (v := 16) hx hb dL_act_137 (by decide) ?_
          refine lv_ishr hx hb dL_act_139 ?_
          refine lv_iconst (v := 3) hx hb dL_act_140 (by decide) ?_
          refine lv_iand hx hb dL_act_141 ?_
          refine lv_if_le (tgt := 160) hx hb dL_act_142 (by decide) (fun c_3 => absurd c_3 hm) (fun c_3 => ?_)
          refine lv_aload_n hx hb dL_act_145 rfl (lv_at hl 4 rfl) ?_
          refine rdV (As := []) (rest := []) ⟨hx, hb, hml, hown, hts⟩ (c_X6_position l D z q (aa 0) (aa 1) (aa 6) (aa 15) (aa 17) (aa 22) (aa 25) (aa 27) dy (aa 18) (aa 19) (aa 20) (aa 21) lt ty zz po me ml) (cwV 0 hts gL_act_X6_position rfl rfl rfl hd_X6_position ⟨Nat.le_of_ble_eq_true rfl, Nat.le_of_ble_eq_true rfl⟩) hE hS hA hP [0, 17, 18, 19, 20, 21] rfl rfl rfl rfl rfl hl.1 rfl (Nat.le_of_ble_eq_true rfl) dL_act_146 ⟨(by show 0 + 0 ≤ 6; omega), (by show 0 + 0 ≤ 36; omega)⟩ ?_
          refine lv_aload_n hx hb dL_act_149 rfl (lv_at hl 4 rfl) ?_
          refine rdV (As := []) (rest := [.int po]) ⟨hx, hb, hml, hown, hts⟩ (c_X6_wanted l D z q (aa 0) (aa 1) (aa 6) (aa 15) (aa 17) (aa 22) (aa 25) (aa 27) dy (aa 18) (aa 19) (aa 20) (aa 21) lt ty zz po me ml) (cwV 0 hts gL_act_X6_wanted rfl rfl rfl hd_X6_wanted ⟨Nat.le_of_ble_eq_true rfl, Nat.le_of_ble_eq_true rfl⟩) hE hS hA hP [0, 17, 18, 19, 20, 21] rfl rfl rfl rfl rfl hl.1 rfl (Nat.le_of_ble_eq_true rfl) dL_act_150 ⟨(by show 0 + 0 ≤ 6; omega), (by show 0 + 0 ≤ 36; omega)⟩ ?_
          refine lv_icmp_ge (tgt := 160) hx hb dL_act_153 (by decide) (fun c_4 => ?_) (fun c_4 => absurd hp c_4)
          refine lv_iconst (v := 0) hx hb dL_act_160 (by decide) ?_
          refine lv_istore (lv' := [(6, .int 0), (2, .int odd), (3, .int how), (4, .int letter), (5, .int millis), (0, .ref (aa 0)), (1, .int v)]) hx hb dL_act_161 hl (by decide) rfl (fun ls hl => ?_)
          refine lv_aload_n hx hb dL_act_163 rfl (lv_at hl 5 rfl) ?_
          refine lv_iconst (v := 3) hx hb dL_act_164 (by decide) ?_
          refine lv_iload hx hb dL_act_165 (lv_at hl 0 rfl) ?_
          refine lv_if_eq (tgt := 181) hx hb dL_act_167 (by decide) (fun _ => ?_) (fun c_5 => absurd (by decide) c_5)
          refine lv_iload hx hb dL_act_181 (lv_at hl 3 rfl) ?_
          refine lv_iload hx hb dL_act_183 (lv_at hl 4 rfl) ?_
          refine lv_iconst (v := 0) hx hb dL_act_185 (by decide) ?_
          refine hwS (As := [.ref (aa 0), .int 3, .int letter, .int millis, .int 0]) (rest := []) ⟨hx, hb, hml, hown, hts⟩ (c_L_does_3_1 l D z q (aa 0) (aa 1) (aa 6) (aa 15) (aa 17) (aa 22) (aa 25) (aa 27) dy (aa 2) (aa 3) (aa 4) (aa 5) pl lo (aa 7) (aa 8) (aa 9) (aa 10) (aa 11) (aa 12) (aa 13) (aa 14) ct ti sh pr wt wh (aa 18) (aa 19) (aa 20) (aa 21) lt ty zz po me ml (aa 26) ek (aa 28) ef (tAt lt zz po) (kKind pl lo lt ty zz po letter (tAt lt zz po)) _ _ _ _ _ _ _ letter millis 0 H.size rfl rfl rfl rfl rfl rfl rfl rfl rfl e0 e1 hlt) (vx_cwSW 5 hts gL_act_L_does rfl rfl rfl hd_L_does ⟨Nat.le_of_ble_eq_true rfl, Nat.le_of_ble_eq_true rfl⟩) hE hS hA hP hD [0, 1, 2, 3, 4, 5, 6, 7, 8, 9, 10, 11, 12, 13, 14, 17, 18, 19, 20, 21, 25, 26, 27, 28] rfl rfl rfl rfl hl.1 rfl (Nat.le_of_ble_eq_true rfl) dL_act_186 ⟨(by show 0 + 3 ≤ 6; omega), (by show 0 + 18 ≤ 36; omega)⟩ (fun H locs hP hD hS => ?_)
          have hP : va_P D vwCl [((aa 0), .inr (6, [.ref (aa 1), .ref (aa 6), .ref (aa 15), .ref (aa 17), .ref (aa 22), .ref (aa 25), .ref (aa 27), .int dy])), ((aa 1), .inr (0, [.ref (aa 2), .ref (aa 4)])), ((aa 2), .inr (1, [.ref (aa 3)])), ((aa 3), .inl (z 0, 26, .inl pl)), ((aa 4), .inr (1, [.ref (aa 5)])), ((aa 5), .inl (z 0, 30, .inl lo)), ((aa 6), .inr (2, [.ref (aa 7), .ref (aa 9), .ref (aa 11), .ref (aa 13), .int wt, .int wh])), ((aa 7), .inr (1, [.ref (aa 8)])), ((aa 8), .inl (z 0, 26, .inl ct)), ((aa 9), .inr (1, [.ref (aa 10)])), ((aa 10), .inl (z 0, 26, .inl ti)), ((aa 11), .inr (1, [.ref (aa 12)])), ((aa 12), .inl (z 0, 26, .inl sh)), ((aa 13), .inr (1, [.ref (aa 14)])), ((aa 14), .inl (z 0, 676, .inl pr)), ((aa 15), .inr (4, [.ref (aa 16), .ref (aa 6)])), ((aa 16), .inl (z 1, 26, .inl ia)), ((aa 17), .inr (3, [.ref (aa 18), .ref (aa 20), .int zz, .int po, .int me, .int ml])), ((aa 18), .inr (1, [.ref (aa 19)])), ((aa 19), .inl (z 0, 40, .inl lt)), ((aa 20), .inr (1, [.ref (aa 21)])), ((aa 21), .inl (z 0, 40, .inl ty)), ((aa 22), .inr (5, [.ref (aa 23), .int sn])), ((aa 23), .inr (1, [.ref (aa 24)])), ((aa 24), .inl (z 0, 100, .inl kp)), ((aa 25), .inr (1, [.ref (aa 26)])), ((aa 26), .inl (z 0, 5, .inl ek)), ((aa 27), .inr (1, [.ref (aa 28)])), ((aa 28), .inl (z 0, 8, .inl ef))] H := hP
          have hD : va_D A [((aa 0), .inr (6, [.ref (aa 1), .ref (aa 6), .ref (aa 15), .ref (aa 17), .ref (aa 22), .ref (aa 25), .ref (aa 27), .int dy])), ((aa 1), .inr (0, [.ref (aa 2), .ref (aa 4)])), ((aa 2), .inr (1, [.ref (aa 3)])), ((aa 3), .inl (z 0, 26, .inl pl)), ((aa 4), .inr (1, [.ref (aa 5)])), ((aa 5), .inl (z 0, 30, .inl lo)), ((aa 6), .inr (2, [.ref (aa 7), .ref (aa 9), .ref (aa 11), .ref (aa 13), .int wt, .int wh])), ((aa 7), .inr (1, [.ref (aa 8)])), ((aa 8), .inl (z 0, 26, .inl ct)), ((aa 9), .inr (1, [.ref (aa 10)])), ((aa 10), .inl (z 0, 26, .inl ti)), ((aa 11), .inr (1, [.ref (aa 12)])), ((aa 12), .inl (z 0, 26, .inl sh)), ((aa 13), .inr (1, [.ref (aa 14)])), ((aa 14), .inl (z 0, 676, .inl pr)), ((aa 15), .inr (4, [.ref (aa 16), .ref (aa 6)])), ((aa 16), .inl (z 1, 26, .inl ia)), ((aa 17), .inr (3, [.ref (aa 18), .ref (aa 20), .int zz, .int po, .int me, .int ml])), ((aa 18), .inr (1, [.ref (aa 19)])), ((aa 19), .inl (z 0, 40, .inl lt)), ((aa 20), .inr (1, [.ref (aa 21)])), ((aa 21), .inl (z 0, 40, .inl ty)), ((aa 22), .inr (5, [.ref (aa 23), .int sn])), ((aa 23), .inr (1, [.ref (aa 24)])), ((aa 24), .inl (z 0, 100, .inl kp)), ((aa 25), .inr (1, [.ref (aa 26)])), ((aa 26), .inl (z 0, 5, .inl ek)), ((aa 27), .inr (1, [.ref (aa 28)])), ((aa 28), .inl (z 0, 8, .inl ef))] := hD
          exact wr_i hx hb hr hlocks hP hD hS dL_act_189 rfl rfl (by omega) (by omega)
        · by_cases e2 : tAt lt zz po = -1
          · refine ⟨(pl, lo, ct, ti, sh, pr, ia, lt, ty, kp, ek, ef, wt, wh, zz, po, me, ml, sn, dy), -99999, CI_mono hI, fun _ => rfl, ?_⟩
            intro p l e s m below meth c D z q aa A H locs G hP hD hS ls hl
            obtain ⟨hx, hb, hr, hml, hts, hown, hlocks, hE, hA, hlt⟩ := G
            have hP : va_P D vwCl (coL z aa pl lo ct ti sh pr ia lt ty kp ek ef wt wh zz po me ml sn dy) H := hP
            have hD : va_D A (coL z aa pl lo ct ti sh pr ia lt ty kp ek ef wt wh zz po me ml sn dy) := hD
            refine lv_iload_n hx hb dL_act_114 rfl (lv_at hl 1 rfl) ?_
            refine lv_bipush (v := 6) hx hb dL_act_115 (by decide) ?_
            refine lv_icmp_ge (tgt := 130) hx hb dL_act_117 (by decide) (fun c_1 => ?_) (fun c_1 => absurd k0 c_1)
            refine lv_iload_n hx hb dL_act_130 rfl (lv_at hl 1 rfl) ?_
            refine lv_bipush (v := 20) hx hb dL_act_131 (by decide) ?_
            refine lv_icmp_ge (tgt := 190) hx hb dL_act_133 (by decide) (fun c_2 => absurd c_2 k1) (fun c_2 => ?_)
            refine lv_iload_n hx hb dL_act_136 rfl (lv_at hl 5 rfl) ?_
            refine lv_bipush (v := 16) hx hb dL_act_137 (by decide) ?_
            refine lv_ishr hx hb dL_act_139 ?_
            refine lv_iconst (v := 3) hx hb dL_act_140 (by decide) ?_
            refine lv_iand hx hb dL_act_141 ?_
            refine lv_if_le (tgt := 160) hx hb dL_act_142 (by decide) (fun c_3 => absurd c_3 hm) (fun c_3 => ?_)
            refine lv_aload_n hx hb dL_act_145 rfl (lv_at hl 4 rfl) ?_
            refine rdV (As := []) (rest := []) ⟨hx, hb, hml, hown, hts⟩ (c_X6_position l D z q (aa 0) (aa 1) (aa 6) (aa 15) (aa 17) (aa 22) (aa 25) (aa 27) dy (aa 18) (aa 19) (aa 20) (aa 21) lt ty zz po me ml) (cwV 0 hts gL_act_X6_position rfl rfl rfl hd_X6_position ⟨Nat.le_of_ble_eq_true rfl, Nat.le_of_ble_eq_true rfl⟩) hE hS hA hP [0, 17, 18, 19, 20, 21] rfl rfl rfl rfl rfl hl.1 rfl (Nat.le_of_ble_eq_true rfl) dL_act_146 ⟨(by show 0 + 0 ≤ 6; omega), (by show 0 + 0 ≤ 36; omega)⟩ ?_
            refine lv_aload_n hx hb dL_act_149 rfl (lv_at hl 4 rfl) ?_
            refine rdV (As := []) (rest := [.int po]) ⟨hx, hb, hml, hown, hts⟩ (c_X6_wanted l D z q (aa 0) (aa 1) (aa 6) (aa 15) (aa 17) (aa 22) (aa 25) (aa 27) dy (aa 18) (aa 19) (aa 20) (aa 21) lt ty zz po me ml) (cwV 0 hts gL_act_X6_wanted rfl rfl rfl hd_X6_wanted ⟨Nat.le_of_ble_eq_true rfl, Nat.le_of_ble_eq_true rfl⟩) hE hS hA hP [0, 17, 18, 19, 20, 21] rfl rfl rfl rfl rfl hl.1 rfl (Nat.le_of_ble_eq_true rfl) dL_act_150 ⟨(by show 0 + 0 ≤ 6; omega), (by show 0 + 0 ≤ 36; omega)⟩ ?_
            refine lv_icmp_ge (tgt := 160) hx hb dL_act_153 (by decide) (fun c_4 => ?_) (fun c_4 => absurd hp c_4)
            refine lv_iconst (v := 0) hx hb dL_act_160 (by decide) ?_
            refine lv_istore (lv' := [(6, .int 0), (2, .int odd), (3, .int how), (4, .int letter), (5, .int millis), (0, .ref (aa 0)), (1, .int v)]) hx hb dL_act_161 hl (by decide) rfl (fun ls hl => ?_)
            refine lv_aload_n hx hb dL_act_163 rfl (lv_at hl 5 rfl) ?_
            refine lv_iconst (v := 3) hx hb dL_act_164 (by decide) ?_
            refine lv_iload hx hb dL_act_165 (lv_at hl 0 rfl) ?_
            refine lv_if_eq (tgt := 181) hx hb dL_act_167 (by decide) (fun _ => ?_) (fun c_5 => absurd (by decide) c_5)
            refine lv_iload hx hb dL_act_181 (lv_at hl 3 rfl) ?_
            refine lv_iload hx hb dL_act_183 (lv_at hl 4 rfl) ?_
            refine lv_iconst (v := 0) hx hb dL_act_185 (by decide) ?_
            refine hwS (As := [.ref (aa 0), .int 3, .int letter, .int millis, .int 0]) (rest := []) ⟨hx, hb, hml, hown, hts⟩ (c_L_does_3_2 l D z q (aa 0) (aa 1) (aa 6) (aa 15) (aa 17) (aa 22) (aa 25) (aa 27) dy (aa 2) (aa 3) (aa 4) (aa 5) pl lo (aa 7) (aa 8) (aa 9) (aa 10) (aa 11) (aa 12) (aa 13) (aa 14) ct ti sh pr wt wh (aa 18) (aa 19) (aa 20) (aa 21) lt ty zz po me ml (aa 26) ek (aa 28) ef (tAt lt zz po) (kKind pl lo lt ty zz po letter (tAt lt zz po)) _ _ _ _ _ _ _ letter millis 0 H.size rfl rfl rfl rfl rfl rfl rfl rfl rfl e0 e1 e2 hlt) (vx_cwSW 5 hts gL_act_L_does rfl rfl rfl hd_L_does ⟨Nat.le_of_ble_eq_true rfl, Nat.le_of_ble_eq_true rfl⟩) hE hS hA hP hD [0, 1, 2, 3, 4, 5, 6, 7, 8, 9, 10, 11, 12, 13, 14, 17, 18, 19, 20, 21, 25, 26, 27, 28] rfl rfl rfl rfl hl.1 rfl (Nat.le_of_ble_eq_true rfl) dL_act_186 ⟨(by show 0 + 3 ≤ 6; omega), (by show 0 + 18 ≤ 36; omega)⟩ (fun H locs hP hD hS => ?_)
            have hP : va_P D vwCl [((aa 0), .inr (6, [.ref (aa 1), .ref (aa 6), .ref (aa 15), .ref (aa 17), .ref (aa 22), .ref (aa 25), .ref (aa 27), .int dy])), ((aa 1), .inr (0, [.ref (aa 2), .ref (aa 4)])), ((aa 2), .inr (1, [.ref (aa 3)])), ((aa 3), .inl (z 0, 26, .inl pl)), ((aa 4), .inr (1, [.ref (aa 5)])), ((aa 5), .inl (z 0, 30, .inl lo)), ((aa 6), .inr (2, [.ref (aa 7), .ref (aa 9), .ref (aa 11), .ref (aa 13), .int wt, .int wh])), ((aa 7), .inr (1, [.ref (aa 8)])), ((aa 8), .inl (z 0, 26, .inl ct)), ((aa 9), .inr (1, [.ref (aa 10)])), ((aa 10), .inl (z 0, 26, .inl ti)), ((aa 11), .inr (1, [.ref (aa 12)])), ((aa 12), .inl (z 0, 26, .inl sh)), ((aa 13), .inr (1, [.ref (aa 14)])), ((aa 14), .inl (z 0, 676, .inl pr)), ((aa 15), .inr (4, [.ref (aa 16), .ref (aa 6)])), ((aa 16), .inl (z 1, 26, .inl ia)), ((aa 17), .inr (3, [.ref (aa 18), .ref (aa 20), .int zz, .int po, .int me, .int ml])), ((aa 18), .inr (1, [.ref (aa 19)])), ((aa 19), .inl (z 0, 40, .inl lt)), ((aa 20), .inr (1, [.ref (aa 21)])), ((aa 21), .inl (z 0, 40, .inl ty)), ((aa 22), .inr (5, [.ref (aa 23), .int sn])), ((aa 23), .inr (1, [.ref (aa 24)])), ((aa 24), .inl (z 0, 100, .inl kp)), ((aa 25), .inr (1, [.ref (aa 26)])), ((aa 26), .inl (z 0, 5, .inl ek)), ((aa 27), .inr (1, [.ref (aa 28)])), ((aa 28), .inl (z 0, 8, .inl ef))] H := hP
            have hD : va_D A [((aa 0), .inr (6, [.ref (aa 1), .ref (aa 6), .ref (aa 15), .ref (aa 17), .ref (aa 22), .ref (aa 25), .ref (aa 27), .int dy])), ((aa 1), .inr (0, [.ref (aa 2), .ref (aa 4)])), ((aa 2), .inr (1, [.ref (aa 3)])), ((aa 3), .inl (z 0, 26, .inl pl)), ((aa 4), .inr (1, [.ref (aa 5)])), ((aa 5), .inl (z 0, 30, .inl lo)), ((aa 6), .inr (2, [.ref (aa 7), .ref (aa 9), .ref (aa 11), .ref (aa 13), .int wt, .int wh])), ((aa 7), .inr (1, [.ref (aa 8)])), ((aa 8), .inl (z 0, 26, .inl ct)), ((aa 9), .inr (1, [.ref (aa 10)])), ((aa 10), .inl (z 0, 26, .inl ti)), ((aa 11), .inr (1, [.ref (aa 12)])), ((aa 12), .inl (z 0, 26, .inl sh)), ((aa 13), .inr (1, [.ref (aa 14)])), ((aa 14), .inl (z 0, 676, .inl pr)), ((aa 15), .inr (4, [.ref (aa 16), .ref (aa 6)])), ((aa 16), .inl (z 1, 26, .inl ia)), ((aa 17), .inr (3, [.ref (aa 18), .ref (aa 20), .int zz, .int po, .int me, .int ml])), ((aa 18), .inr (1, [.ref (aa 19)])), ((aa 19), .inl (z 0, 40, .inl lt)), ((aa 20), .inr (1, [.ref (aa 21)])), ((aa 21), .inl (z 0, 40, .inl ty)), ((aa 22), .inr (5, [.ref (aa 23), .int sn])), ((aa 23), .inr (1, [.ref (aa 24)])), ((aa 24), .inl (z 0, 100, .inl kp)), ((aa 25), .inr (1, [.ref (aa 26)])), ((aa 26), .inl (z 0, 5, .inl ek)), ((aa 27), .inr (1, [.ref (aa 28)])), ((aa 28), .inl (z 0, 8, .inl ef))] := hD
            exact wr_i hx hb hr hlocks hP hD hS dL_act_189 rfl rfl (by omega) (by omega)
          · obtain ⟨du, kd, ct1, ti1, sh1, pr1, ty1, ek1, ef1, ⟨hdu, hkd, hct, hti, hsh, hpr, hty, hek, hef⟩, ⟨-, -, -, -, -, -, -, -, -, -, -, -, hkn⟩, hC⟩ := CI_stroke hI e0 e1 e2
            refine ⟨(pl, lo, ct1, ti1, sh1, pr1, ia, lt, ty1, kp, ek1, ef1, wt, wh, zz, po + 1, me, ml + millis, sn, dy + 1), kd, hC, fun h => absurd h hkn, ?_⟩
            intro p l e s m below meth c D z q aa A H locs G hP hD hS ls hl
            obtain ⟨hx, hb, hr, hml, hts, hown, hlocks, hE, hA, hlt⟩ := G
            have hP : va_P D vwCl (coL z aa pl lo ct ti sh pr ia lt ty kp ek ef wt wh zz po me ml sn dy) H := hP
            have hD : va_D A (coL z aa pl lo ct ti sh pr ia lt ty kp ek ef wt wh zz po me ml sn dy) := hD
            refine lv_iload_n hx hb dL_act_114 rfl (lv_at hl 1 rfl) ?_
            refine lv_bipush (v := 6) hx hb dL_act_115 (by decide) ?_
            refine lv_icmp_ge (tgt := 130) hx hb dL_act_117 (by decide) (fun c_1 => ?_) (fun c_1 => absurd k0 c_1)
            refine lv_iload_n hx hb dL_act_130 rfl (lv_at hl 1 rfl) ?_
            refine lv_bipush (v := 20) hx hb dL_act_131 (by decide) ?_
            refine lv_icmp_ge (tgt := 190) hx hb dL_act_133 (by decide) (fun c_2 => absurd c_2 k1) (fun c_2 => ?_)
            refine lv_iload_n hx hb dL_act_136 rfl (lv_at hl 5 rfl) ?_
            refine lv_bipush (v := 16) hx hb dL_act_137 (by decide) ?_
            refine lv_ishr hx hb dL_act_139 ?_
            refine lv_iconst (v := 3) hx hb dL_act_140 (by decide) ?_
            refine lv_iand hx hb dL_act_141 ?_
            refine lv_if_le (tgt := 160) hx hb dL_act_142 (by decide) (fun c_3 => absurd c_3 hm) (fun c_3 => ?_)
            refine lv_aload_n hx hb dL_act_145 rfl (lv_at hl 4 rfl) ?_
            refine rdV (As := []) (rest := []) ⟨hx, hb, hml, hown, hts⟩ (c_X6_position l D z q (aa 0) (aa 1) (aa 6) (aa 15) (aa 17) (aa 22) (aa 25) (aa 27) dy (aa 18) (aa 19) (aa 20) (aa 21) lt ty zz po me ml) (cwV 0 hts gL_act_X6_position rfl rfl rfl hd_X6_position ⟨Nat.le_of_ble_eq_true rfl, Nat.le_of_ble_eq_true rfl⟩) hE hS hA hP [0, 17, 18, 19, 20, 21] rfl rfl rfl rfl rfl hl.1 rfl (Nat.le_of_ble_eq_true rfl) dL_act_146 ⟨(by show 0 + 0 ≤ 6; omega), (by show 0 + 0 ≤ 36; omega)⟩ ?_
            refine lv_aload_n hx hb dL_act_149 rfl (lv_at hl 4 rfl) ?_
            refine rdV (As := []) (rest := [.int po]) ⟨hx, hb, hml, hown, hts⟩ (c_X6_wanted l D z q (aa 0) (aa 1) (aa 6) (aa 15) (aa 17) (aa 22) (aa 25) (aa 27) dy (aa 18) (aa 19) (aa 20) (aa 21) lt ty zz po me ml) (cwV 0 hts gL_act_X6_wanted rfl rfl rfl hd_X6_wanted ⟨Nat.le_of_ble_eq_true rfl, Nat.le_of_ble_eq_true rfl⟩) hE hS hA hP [0, 17, 18, 19, 20, 21] rfl rfl rfl rfl rfl hl.1 rfl (Nat.le_of_ble_eq_true rfl) dL_act_150 ⟨(by show 0 + 0 ≤ 6; omega), (by show 0 + 0 ≤ 36; omega)⟩ ?_
            refine lv_icmp_ge (tgt := 160) hx hb dL_act_153 (by decide) (fun c_4 => ?_) (fun c_4 => absurd hp c_4)
            refine lv_iconst (v := 0) hx hb dL_act_160 (by decide) ?_
            refine lv_istore (lv' := [(6, .int 0), (2, .int odd), (3, .int how), (4, .int letter), (5, .int millis), (0, .ref (aa 0)), (1, .int v)]) hx hb dL_act_161 hl (by decide) rfl (fun ls hl => ?_)
            refine lv_aload_n hx hb dL_act_163 rfl (lv_at hl 5 rfl) ?_
            refine lv_iconst (v := 3) hx hb dL_act_164 (by decide) ?_
            refine lv_iload hx hb dL_act_165 (lv_at hl 0 rfl) ?_
            refine lv_if_eq (tgt := 181) hx hb dL_act_167 (by decide) (fun _ => ?_) (fun c_5 => absurd (by decide) c_5)
            refine lv_iload hx hb dL_act_181 (lv_at hl 3 rfl) ?_
            refine lv_iload hx hb dL_act_183 (lv_at hl 4 rfl) ?_
            refine lv_iconst (v := 0) hx hb dL_act_185 (by decide) ?_
            refine hwS (As := [.ref (aa 0), .int 3, .int letter, .int millis, .int 0]) (rest := []) ⟨hx, hb, hml, hown, hts⟩ (c_L_does_3_3 l D z q (aa 0) (aa 1) (aa 6) (aa 15) (aa 17) (aa 22) (aa 25) (aa 27) dy (aa 2) (aa 3) (aa 4) (aa 5) pl lo (aa 7) (aa 8) (aa 9) (aa 10) (aa 11) (aa 12) (aa 13) (aa 14) ct ti sh pr wt wh (aa 18) (aa 19) (aa 20) (aa 21) lt ty zz po me ml (aa 26) ek (aa 28) ef du kd ct1 ti1 sh1 pr1 ty1 ek1 ef1 letter millis 0 H.size hdu hkd hct hti hsh hpr hty hek hef e0 e1 e2 hlt) (vx_cwSW 5 hts gL_act_L_does rfl rfl rfl hd_L_does ⟨Nat.le_of_ble_eq_true rfl, Nat.le_of_ble_eq_true rfl⟩) hE hS hA hP hD [0, 1, 2, 3, 4, 5, 6, 7, 8, 9, 10, 11, 12, 13, 14, 17, 18, 19, 20, 21, 25, 26, 27, 28] rfl rfl rfl rfl hl.1 rfl (Nat.le_of_ble_eq_true rfl) dL_act_186 ⟨(by show 0 + 3 ≤ 6; omega), (by show 0 + 18 ≤ 36; omega)⟩ (fun H locs hP hD hS => ?_)
            have hP : va_P D vwCl [((aa 0), .inr (6, [.ref (aa 1), .ref (aa 6), .ref (aa 15), .ref (aa 17), .ref (aa 22), .ref (aa 25), .ref (aa 27), .int (dy + 1)])), ((aa 1), .inr (0, [.ref (aa 2), .ref (aa 4)])), ((aa 2), .inr (1, [.ref (aa 3)])), ((aa 3), .inl (z 0, 26, .inl pl)), ((aa 4), .inr (1, [.ref (aa 5)])), ((aa 5), .inl (z 0, 30, .inl lo)), ((aa 6), .inr (2, [.ref (aa 7), .ref (aa 9), .ref (aa 11), .ref (aa 13), .int wt, .int wh])), ((aa 7), .inr (1, [.ref (aa 8)])), ((aa 8), .inl (z 0, 26, .inl ct1)), ((aa 9), .inr (1, [.ref (aa 10)])), ((aa 10), .inl (z 0, 26, .inl ti1)), ((aa 11), .inr (1, [.ref (aa 12)])), ((aa 12), .inl (z 0, 26, .inl sh1)), ((aa 13), .inr (1, [.ref (aa 14)])), ((aa 14), .inl (z 0, 676, .inl pr1)), ((aa 15), .inr (4, [.ref (aa 16), .ref (aa 6)])), ((aa 16), .inl (z 1, 26, .inl ia)), ((aa 17), .inr (3, [.ref (aa 18), .ref (aa 20), .int zz, .int (po + 1), .int me, .int (ml + millis)])), ((aa 18), .inr (1, [.ref (aa 19)])), ((aa 19), .inl (z 0, 40, .inl lt)), ((aa 20), .inr (1, [.ref (aa 21)])), ((aa 21), .inl (z 0, 40, .inl ty1)), ((aa 22), .inr (5, [.ref (aa 23), .int sn])), ((aa 23), .inr (1, [.ref (aa 24)])), ((aa 24), .inl (z 0, 100, .inl kp)), ((aa 25), .inr (1, [.ref (aa 26)])), ((aa 26), .inl (z 0, 5, .inl ek1)), ((aa 27), .inr (1, [.ref (aa 28)])), ((aa 28), .inl (z 0, 8, .inl ef1))] H := hP
            have hD : va_D A [((aa 0), .inr (6, [.ref (aa 1), .ref (aa 6), .ref (aa 15), .ref (aa 17), .ref (aa 22), .ref (aa 25), .ref (aa 27), .int (dy + 1)])), ((aa 1), .inr (0, [.ref (aa 2), .ref (aa 4)])), ((aa 2), .inr (1, [.ref (aa 3)])), ((aa 3), .inl (z 0, 26, .inl pl)), ((aa 4), .inr (1, [.ref (aa 5)])), ((aa 5), .inl (z 0, 30, .inl lo)), ((aa 6), .inr (2, [.ref (aa 7), .ref (aa 9), .ref (aa 11), .ref (aa 13), .int wt, .int wh])), ((aa 7), .inr (1, [.ref (aa 8)])), ((aa 8), .inl (z 0, 26, .inl ct1)), ((aa 9), .inr (1, [.ref (aa 10)])), ((aa 10), .inl (z 0, 26, .inl ti1)), ((aa 11), .inr (1, [.ref (aa 12)])), ((aa 12), .inl (z 0, 26, .inl sh1)), ((aa 13), .inr (1, [.ref (aa 14)])), ((aa 14), .inl (z 0, 676, .inl pr1)), ((aa 15), .inr (4, [.ref (aa 16), .ref (aa 6)])), ((aa 16), .inl (z 1, 26, .inl ia)), ((aa 17), .inr (3, [.ref (aa 18), .ref (aa 20), .int zz, .int (po + 1), .int me, .int (ml + millis)])), ((aa 18), .inr (1, [.ref (aa 19)])), ((aa 19), .inl (z 0, 40, .inl lt)), ((aa 20), .inr (1, [.ref (aa 21)])), ((aa 21), .inl (z 0, 40, .inl ty1)), ((aa 22), .inr (5, [.ref (aa 23), .int sn])), ((aa 23), .inr (1, [.ref (aa 24)])), ((aa 24), .inl (z 0, 100, .inl kp)), ((aa 25), .inr (1, [.ref (aa 26)])), ((aa 26), .inl (z 0, 5, .inl ek1)), ((aa 27), .inr (1, [.ref (aa 28)])), ((aa 28), .inl (z 0, 8, .inl ef1))] := hD
            exact wr_i hx hb hr hlocks hP hD hS dL_act_189 rfl rfl (by omega) (by omega)
    · have hpw : ¬ bW po 0 (zz - 1) = 0 := by
          rw [hpo, hzz]; exact bW_m1 (Decidable.byContradiction fun h9 => hp (by rw [hpo, hzz]; exact (nI_leI (by omega) (by omega)).mpr (by omega))) (by omega)
      by_cases e0 : bW (tAt lt zz po) 0 25 = 0
      · refine ⟨(pl, lo, ct, ti, sh, pr, ia, lt, ty, kp, ek, ef, wt, wh, zz, po, me, ml, sn, dy), -99999, CI_mono hI, fun _ => rfl, ?_⟩
        intro p l e s m below meth c D z q aa A H locs G hP hD hS ls hl
        obtain ⟨hx, hb, hr, hml, hts, hown, hlocks, hE, hA, hlt⟩ := G
        have hP : va_P D vwCl (coL z aa pl lo ct ti sh pr ia lt ty kp ek ef wt wh zz po me ml sn dy) H := hP
        have hD : va_D A (coL z aa pl lo ct ti sh pr ia lt ty kp ek ef wt wh zz po me ml sn dy) := hD
        refine lv_iload_n hx hb dL_act_114 rfl (lv_at hl 1 rfl) ?_
        refine lv_bipush (v := 6) hx hb dL_act_115 (by decide) ?_
        refine lv_icmp_ge (tgt := 130) hx hb dL_act_117 (by decide) (fun c_1 => ?_) (fun c_1 => absurd k0 c_1)
        refine lv_iload_n hx hb dL_act_130 rfl (lv_at hl 1 rfl) ?_
        refine lv_bipush (v := 20) hx hb dL_act_131 (by decide) ?_
        refine lv_icmp_ge (tgt := 190) hx hb dL_act_133 (by decide) (fun c_2 => absurd c_2 k1) (fun c_2 => ?_)
        refine lv_iload_n hx hb dL_act_136 rfl (lv_at hl 5 rfl) ?_
        refine lv_bipush (v := 16) hx hb dL_act_137 (by decide) ?_
        refine lv_ishr hx hb dL_act_139 ?_
        refine lv_iconst (v := 3) hx hb dL_act_140 (by decide) ?_
        refine lv_iand hx hb dL_act_141 ?_
        refine lv_if_le (tgt := 160) hx hb dL_act_142 (by decide) (fun c_3 => absurd c_3 hm) (fun c_3 => ?_)
        refine lv_aload_n hx hb dL_act_145 rfl (lv_at hl 4 rfl) ?_
        refine rdV (As := []) (rest := []) ⟨hx, hb, hml, hown, hts⟩ (c_X6_position l D z q (aa 0) (aa 1) (aa 6) (aa 15) (aa 17) (aa 22) (aa 25) (aa 27) dy (aa 18) (aa 19) (aa 20) (aa 21) lt ty zz po me ml) (cwV 0 hts gL_act_X6_position rfl rfl rfl hd_X6_position ⟨Nat.le_of_ble_eq_true rfl, Nat.le_of_ble_eq_true rfl⟩) hE hS hA hP [0, 17, 18, 19, 20, 21] rfl rfl rfl rfl rfl hl.1 rfl (Nat.le_of_ble_eq_true rfl) dL_act_146 ⟨(by show 0 + 0 ≤ 6; omega), (by show 0 + 0 ≤ 36; omega)⟩ ?_
        refine lv_aload_n hx hb dL_act_149 rfl (lv_at hl 4 rfl) ?_
        refine rdV (As := []) (rest := [.int po]) ⟨hx, hb, hml, hown, hts⟩ (c_X6_wanted l D z q (aa 0) (aa 1) (aa 6) (aa 15) (aa 17) (aa 22) (aa 25) (aa 27) dy (aa 18) (aa 19) (aa 20) (aa 21) lt ty zz po me ml) (cwV 0 hts gL_act_X6_wanted rfl rfl rfl hd_X6_wanted ⟨Nat.le_of_ble_eq_true rfl, Nat.le_of_ble_eq_true rfl⟩) hE hS hA hP [0, 17, 18, 19, 20, 21] rfl rfl rfl rfl rfl hl.1 rfl (Nat.le_of_ble_eq_true rfl) dL_act_150 ⟨(by show 0 + 0 ≤ 6; omega), (by show 0 + 0 ≤ 36; omega)⟩ ?_
        refine lv_icmp_ge (tgt := 160) hx hb dL_act_153 (by decide) (fun c_4 => absurd c_4 hp) (fun c_4 => ?_)
        refine lv_iconst (v := 1) hx hb dL_act_156 (by decide) ?_
        refine lv_goto (tgt := 161) hx hb dL_act_157 (by decide) ?_
        refine lv_istore (lv' := [(6, .int 1), (2, .int odd), (3, .int how), (4, .int letter), (5, .int millis), (0, .ref (aa 0)), (1, .int v)]) hx hb dL_act_161 hl (by decide) rfl (fun ls hl => ?_)
        refine lv_aload_n hx hb dL_act_163 rfl (lv_at hl 5 rfl) ?_
        refine lv_iconst (v := 3) hx hb dL_act_164 (by decide) ?_
        refine lv_iload hx hb dL_act_165 (lv_at hl 0 rfl) ?_
        refine lv_if_eq (tgt := 181) hx hb dL_act_167 (by decide) (fun c_5 => absurd c_5 (by decide)) (fun _ => ?_)
        refine lv_aload_n hx hb dL_act_170 rfl (lv_at hl 5 rfl) ?_
        refine lv_aload_n hx hb dL_act_171 rfl (lv_at hl 5 rfl) ?_
        refine rdV (As := []) (rest := [.ref (aa 0), .int 3, .ref (aa 0)]) ⟨hx, hb, hml, hown, hts⟩ (c_X6_position l D z q (aa 0) (aa 1) (aa 6) (aa 15) (aa 17) (aa 22) (aa 25) (aa 27) dy (aa 18) (aa 19) (aa 20) (aa 21) lt ty zz po me ml) (cwV 0 hts gL_act_X6_position rfl rfl rfl hd_X6_position ⟨Nat.le_of_ble_eq_true rfl, Nat.le_of_ble_eq_true rfl⟩) hE hS hA hP [0, 17, 18, 19, 20, 21] rfl rfl rfl rfl rfl hl.1 rfl (Nat.le_of_ble_eq_true rfl) dL_act_172 ⟨(by show 0 + 0 ≤ 6; omega), (by show 0 + 0 ≤ 36; omega)⟩ ?_
        refine txR (As := [.int po]) (rest := [.int 3, .ref (aa 0)]) ⟨hx, hb, hml, hown, hts⟩ (c_X6_wantedAt l D z q (aa 0) (aa 1) (aa 6) (aa 15) (aa 17) (aa 22) (aa 25) (aa 27) dy (aa 18) (aa 19) (aa 20) (aa 21) lt ty zz po me ml po H.size hlt) (cwV 1 hts gL_act_X6_wantedAt rfl rfl rfl hd_X6_wantedAt ⟨Nat.le_of_ble_eq_true rfl, Nat.le_of_ble_eq_true rfl⟩) hE hS hA hP hD [0, 17, 18, 19, 20, 21] rfl rfl rfl rfl rfl rfl hl.1 rfl (Nat.le_of_ble_eq_true rfl) dL_act_175 ⟨(by show 0 + 3 ≤ 6; omega), (by show 0 + 18 ≤ 36; omega)⟩ (fun E hbd => (hpw (hbd.1) : False).elim) (fun H locs hP hD hS => ?_)
        refine lv_goto (tgt := 183) hx hb dL_act_178 (by decide) ?_
        refine lv_iload hx hb dL_act_183 (lv_at hl 4 rfl) ?_
        refine lv_iconst (v := 0) hx hb dL_act_185 (by decide) ?_
        refine hwS (As := [.ref (aa 0), .int 3, .int (tAt lt zz po), .int millis, .int 0]) (rest := []) ⟨hx, hb, hml, hown, hts⟩ (c_L_does_3_0 l D z q (aa 0) (aa 1) (aa 6) (aa 15) (aa 17) (aa 22) (aa 25) (aa 27) dy (aa 2) (aa 3) (aa 4) (aa 5) pl lo (aa 7) (aa 8) (aa 9) (aa 10) (aa 11) (aa 12) (aa 13) (aa 14) ct ti sh pr wt wh (aa 18) (aa 19) (aa 20) (aa 21) lt ty zz po me ml (aa 26) ek (aa 28) ef (tAt lt zz po) (kKind pl lo lt ty zz po (tAt lt zz po) (tAt lt zz po)) _ _ _ _ _ _ _ (tAt lt zz po) millis 0 H.size rfl rfl rfl rfl rfl rfl rfl rfl rfl e0 hlt) (vx_cwSW 5 hts gL_act_L_does rfl rfl rfl hd_L_does ⟨Nat.le_of_ble_eq_true rfl, Nat.le_of_ble_eq_true rfl⟩) hE hS hA hP hD [0, 1, 2, 3, 4, 5, 6, 7, 8, 9, 10, 11, 12, 13, 14, 17, 18, 19, 20, 21, 25, 26, 27, 28] rfl rfl rfl rfl hl.1 rfl (Nat.le_of_ble_eq_true rfl) dL_act_186 ⟨(by show 3 + 3 ≤ 6; omega), (by show 18 + 18 ≤ 36; omega)⟩ (fun H locs hP hD hS => ?_)
        have hP : va_P D vwCl [((aa 0), .inr (6, [.ref (aa 1), .ref (aa 6), .ref (aa 15), .ref (aa 17), .ref (aa 22), .ref (aa 25), .ref (aa 27), .int dy])), ((aa 1), .inr (0, [.ref (aa 2), .ref (aa 4)])), ((aa 2), .inr (1, [.ref (aa 3)])), ((aa 3), .inl (z 0, 26, .inl pl)), ((aa 4), .inr (1, [.ref (aa 5)])), ((aa 5), .inl (z 0, 30, .inl lo)), ((aa 6), .inr (2, [.ref (aa 7), .ref (aa 9), .ref (aa 11), .ref (aa 13), .int wt, .int wh])), ((aa 7), .inr (1, [.ref (aa 8)])), ((aa 8), .inl (z 0, 26, .inl ct)), ((aa 9), .inr (1, [.ref (aa 10)])), ((aa 10), .inl (z 0, 26, .inl ti)), ((aa 11), .inr (1, [.ref (aa 12)])), ((aa 12), .inl (z 0, 26, .inl sh)), ((aa 13), .inr (1, [.ref (aa 14)])), ((aa 14), .inl (z 0, 676, .inl pr)), ((aa 15), .inr (4, [.ref (aa 16), .ref (aa 6)])), ((aa 16), .inl (z 1, 26, .inl ia)), ((aa 17), .inr (3, [.ref (aa 18), .ref (aa 20), .int zz, .int po, .int me, .int ml])), ((aa 18), .inr (1, [.ref (aa 19)])), ((aa 19), .inl (z 0, 40, .inl lt)), ((aa 20), .inr (1, [.ref (aa 21)])), ((aa 21), .inl (z 0, 40, .inl ty)), ((aa 22), .inr (5, [.ref (aa 23), .int sn])), ((aa 23), .inr (1, [.ref (aa 24)])), ((aa 24), .inl (z 0, 100, .inl kp)), ((aa 25), .inr (1, [.ref (aa 26)])), ((aa 26), .inl (z 0, 5, .inl ek)), ((aa 27), .inr (1, [.ref (aa 28)])), ((aa 28), .inl (z 0, 8, .inl ef))] H := hP
        have hD : va_D A [((aa 0), .inr (6, [.ref (aa 1), .ref (aa 6), .ref (aa 15), .ref (aa 17), .ref (aa 22), .ref (aa 25), .ref (aa 27), .int dy])), ((aa 1), .inr (0, [.ref (aa 2), .ref (aa 4)])), ((aa 2), .inr (1, [.ref (aa 3)])), ((aa 3), .inl (z 0, 26, .inl pl)), ((aa 4), .inr (1, [.ref (aa 5)])), ((aa 5), .inl (z 0, 30, .inl lo)), ((aa 6), .inr (2, [.ref (aa 7), .ref (aa 9), .ref (aa 11), .ref (aa 13), .int wt, .int wh])), ((aa 7), .inr (1, [.ref (aa 8)])), ((aa 8), .inl (z 0, 26, .inl ct)), ((aa 9), .inr (1, [.ref (aa 10)])), ((aa 10), .inl (z 0, 26, .inl ti)), ((aa 11), .inr (1, [.ref (aa 12)])), ((aa 12), .inl (z 0, 26, .inl sh)), ((aa 13), .inr (1, [.ref (aa 14)])), ((aa 14), .inl (z 0, 676, .inl pr)), ((aa 15), .inr (4, [.ref (aa 16), .ref (aa 6)])), ((aa 16), .inl (z 1, 26, .inl ia)), ((aa 17), .inr (3, [.ref (aa 18), .ref (aa 20), .int zz, .int po, .int me, .int ml])), ((aa 18), .inr (1, [.ref (aa 19)])), ((aa 19), .inl (z 0, 40, .inl lt)), ((aa 20), .inr (1, [.ref (aa 21)])), ((aa 21), .inl (z 0, 40, .inl ty)), ((aa 22), .inr (5, [.ref (aa 23), .int sn])), ((aa 23), .inr (1, [.ref (aa 24)])), ((aa 24), .inl (z 0, 100, .inl kp)), ((aa 25), .inr (1, [.ref (aa 26)])), ((aa 26), .inl (z 0, 5, .inl ek)), ((aa 27), .inr (1, [.ref (aa 28)])), ((aa 28), .inl (z 0, 8, .inl ef))] := hD
        exact wr_i hx hb hr hlocks hP hD hS dL_act_189 rfl rfl (by omega) (by omega)
      · by_cases e1 : bW millis 1 5000 = 0
        · refine ⟨(pl, lo, ct, ti, sh, pr, ia, lt, ty, kp, ek, ef, wt, wh, zz, po, me, ml, sn, dy), -99999, CI_mono hI, fun _ => rfl, ?_⟩
          intro p l e s m below meth c D z q aa A H locs G hP hD hS ls hl
          obtain ⟨hx, hb, hr, hml, hts, hown, hlocks, hE, hA, hlt⟩ := G
          have hP : va_P D vwCl (coL z aa pl lo ct ti sh pr ia lt ty kp ek ef wt wh zz po me ml sn dy) H := hP
          have hD : va_D A (coL z aa pl lo ct ti sh pr ia lt ty kp ek ef wt wh zz po me ml sn dy) := hD
          refine lv_iload_n hx hb dL_act_114 rfl (lv_at hl 1 rfl) ?_
          refine lv_bipush (v := 6) hx hb dL_act_115 (by decide) ?_
          refine lv_icmp_ge (tgt := 130) hx hb dL_act_117 (by decide) (fun c_1 => ?_) (fun c_1 => absurd k0 c_1)
          refine lv_iload_n hx hb dL_act_130 rfl (lv_at hl 1 rfl) ?_
          refine lv_bipush (v := 20) hx hb dL_act_131 (by decide) ?_
          refine lv_icmp_ge (tgt := 190) hx hb dL_act_133 (by decide) (fun c_2 => absurd c_2 k1) (fun c_2 => ?_)
          refine lv_iload_n hx hb dL_act_136 rfl (lv_at hl 5 rfl) ?_
          refine lv_bipush (v := 16) hx hb dL_act_137 (by decide) ?_
          refine lv_ishr hx hb dL_act_139 ?_
          refine lv_iconst (v := 3) hx hb dL_act_140 (by decide) ?_
          refine lv_iand hx hb dL_act_141 ?_
          refine lv_if_le (tgt := 160) hx hb dL_act_142 (by decide) (fun c_3 => absurd c_3 hm) (fun c_3 => ?_)
          refine lv_aload_n hx hb dL_act_145 rfl (lv_at hl 4 rfl) ?_
          refine rdV (As := []) (rest := []) ⟨hx, hb, hml, hown, hts⟩ (c_X6_position l D z q (aa 0) (aa 1) (aa 6) (aa 15) (aa 17) (aa 22) (aa 25) (aa 27) dy (aa 18) (aa 19) (aa 20) (aa 21) lt ty zz po me ml) (cwV 0 hts gL_act_X6_position rfl rfl rfl hd_X6_position ⟨Nat.le_of_ble_eq_true rfl, Nat.le_of_ble_eq_true rfl⟩) hE hS hA hP [0, 17, 18, 19, 20, 21] rfl rfl rfl rfl rfl hl.1 rfl (Nat.le_of_ble_eq_true rfl) dL_act_146 ⟨(by show 0 + 0 ≤ 6; omega), (by show 0 + 0 ≤ 36; omega)⟩ ?_
          refine lv_aload_n hx hb dL_act_149 rfl (lv_at hl 4 rfl) ?_
          refine rdV (As := []) (rest := [.int po]) ⟨hx, hb, hml, hown, hts⟩ (c_X6_wanted l D z q (aa 0) (aa 1) (aa 6) (aa 15) (aa 17) (aa 22) (aa 25) (aa 27) dy (aa 18) (aa 19) (aa 20) (aa 21) lt ty zz po me ml) (cwV 0 hts gL_act_X6_wanted rfl rfl rfl hd_X6_wanted ⟨Nat.le_of_ble_eq_true rfl, Nat.le_of_ble_eq_true rfl⟩) hE hS hA hP [0, 17, 18, 19, 20, 21] rfl rfl rfl rfl rfl hl.1 rfl (Nat.le_of_ble_eq_true rfl) dL_act_150 ⟨(by show 0 + 0 ≤ 6; omega), (by show 0 + 0 ≤ 36; omega)⟩ ?_
          refine lv_icmp_ge (tgt := 160) hx hb dL_act_153 (by decide) (fun c_4 => absurd c_4 hp) (fun c_4 => ?_)
          refine lv_iconst (v := 1) hx hb dL_act_156 (by decide) ?_
          refine lv_goto (tgt := 161) hx hb dL_act_157 (by decide) ?_
          refine lv_istore (lv' := [(6, .int 1), (2, .int odd), (3, .int how), (4, .int letter), (5, .int millis), (0, .ref (aa 0)), (1, .int v)]) hx hb dL_act_161 hl (by decide) rfl (fun ls hl => ?_)
          refine lv_aload_n hx hb dL_act_163 rfl (lv_at hl 5 rfl) ?_
          refine lv_iconst (v := 3) hx hb dL_act_164 (by decide) ?_
          refine lv_iload hx hb dL_act_165 (lv_at hl 0 rfl) ?_
          refine lv_if_eq (tgt := 181) hx hb dL_act_167 (by decide) (fun c_5 => absurd c_5 (by decide)) (fun _ => ?_)
          refine lv_aload_n hx hb dL_act_170 rfl (lv_at hl 5 rfl) ?_
          refine lv_aload_n hx hb dL_act_171 rfl (lv_at hl 5 rfl) ?_
          refine rdV (As := []) (rest := [.ref (aa 0), .int 3, .ref (aa 0)]) ⟨hx, hb, hml, hown, hts⟩ (c_X6_position l D z q (aa 0) (aa 1) (aa 6) (aa 15) (aa 17) (aa 22) (aa 25) (aa 27) dy (aa 18) (aa 19) (aa 20) (aa 21) lt ty zz po me ml) (cwV 0 hts gL_act_X6_position rfl rfl rfl hd_X6_position ⟨Nat.le_of_ble_eq_true rfl, Nat.le_of_ble_eq_true rfl⟩) hE hS hA hP [0, 17, 18, 19, 20, 21] rfl rfl rfl rfl rfl hl.1 rfl (Nat.le_of_ble_eq_true rfl) dL_act_172 ⟨(by show 0 + 0 ≤ 6; omega), (by show 0 + 0 ≤ 36; omega)⟩ ?_
          refine txR (As := [.int po]) (rest := [.int 3, .ref (aa 0)]) ⟨hx, hb, hml, hown, hts⟩ (c_X6_wantedAt l D z q (aa 0) (aa 1) (aa 6) (aa 15) (aa 17) (aa 22) (aa 25) (aa 27) dy (aa 18) (aa 19) (aa 20) (aa 21) lt ty zz po me ml po H.size hlt) (cwV 1 hts gL_act_X6_wantedAt rfl rfl rfl hd_X6_wantedAt ⟨Nat.le_of_ble_eq_true rfl, Nat.le_of_ble_eq_true rfl⟩) hE hS hA hP hD [0, 17, 18, 19, 20, 21] rfl rfl rfl rfl rfl rfl hl.1 rfl (Nat.le_of_ble_eq_true rfl) dL_act_175 ⟨(by show 0 + 3 ≤ 6; omega), (by show 0 + 18 ≤ 36; omega)⟩ (fun E hbd => (hpw (hbd.1) : False).elim) (fun H locs hP hD hS => ?_)
          refine lv_goto (tgt := 183) hx hb dL_act_178 (by decide) ?_
          refine lv_iload hx hb dL_act_183 (lv_at hl 4 rfl) ?_
          refine lv_iconst (v := 0) hx hb dL_act_185 (by decide) ?_
          refine hwS (As := [.ref (aa 0), .int 3, .int (tAt lt zz po), .int millis, .int 0]) (rest := []) ⟨hx, hb, hml, hown, hts⟩ (c_L_does_3_1 l D z q (aa 0) (aa 1) (aa 6) (aa 15) (aa 17) (aa 22) (aa 25) (aa 27) dy (aa 2) (aa 3) (aa 4) (aa 5) pl lo (aa 7) (aa 8) (aa 9) (aa 10) (aa 11) (aa 12) (aa 13) (aa 14) ct ti sh pr wt wh (aa 18) (aa 19) (aa 20) (aa 21) lt ty zz po me ml (aa 26) ek (aa 28) ef (tAt lt zz po) (kKind pl lo lt ty zz po (tAt lt zz po) (tAt lt zz po)) _ _ _ _ _ _ _ (tAt lt zz po) millis 0 H.size rfl rfl rfl rfl rfl rfl rfl rfl rfl e0 e1 hlt) (vx_cwSW 5 hts gL_act_L_does rfl rfl rfl hd_L_does ⟨Nat.le_of_ble_eq_true rfl, Nat.le_of_ble_eq_true rfl⟩) hE hS hA hP hD [0, 1, 2, 3, 4, 5, 6, 7, 8, 9, 10, 11, 12, 13, 14, 17, 18, 19, 20, 21, 25, 26, 27, 28] rfl rfl rfl rfl hl.1 rfl (Nat.le_of_ble_eq_true rfl) dL_act_186 ⟨(by show 3 + 3 ≤ 6; omega), (by show 18 + 18 ≤ 36; omega)⟩ (fun H locs hP hD hS => ?_)
          have hP : va_P D vwCl [((aa 0), .inr (6, [.ref (aa 1), .ref (aa 6), .ref (aa 15), .ref (aa 17), .ref (aa 22), .ref (aa 25), .ref (aa 27), .int dy])), ((aa 1), .inr (0, [.ref (aa 2), .ref (aa 4)])), ((aa 2), .inr (1, [.ref (aa 3)])), ((aa 3), .inl (z 0, 26, .inl pl)), ((aa 4), .inr (1, [.ref (aa 5)])), ((aa 5), .inl (z 0, 30, .inl lo)), ((aa 6), .inr (2, [.ref (aa 7), .ref (aa 9), .ref (aa 11), .ref (aa 13), .int wt, .int wh])), ((aa 7), .inr (1, [.ref (aa 8)])), ((aa 8), .inl (z 0, 26, .inl ct)), ((aa 9), .inr (1, [.ref (aa 10)])), ((aa 10), .inl (z 0, 26, .inl ti)), ((aa 11), .inr (1, [.ref (aa 12)])), ((aa 12), .inl (z 0, 26, .inl sh)), ((aa 13), .inr (1, [.ref (aa 14)])), ((aa 14), .inl (z 0, 676, .inl pr)), ((aa 15), .inr (4, [.ref (aa 16), .ref (aa 6)])), ((aa 16), .inl (z 1, 26, .inl ia)), ((aa 17), .inr (3, [.ref (aa 18), .ref (aa 20), .int zz, .int po, .int me, .int ml])), ((aa 18), .inr (1, [.ref (aa 19)])), ((aa 19), .inl (z 0, 40, .inl lt)), ((aa 20), .inr (1, [.ref (aa 21)])), ((aa 21), .inl (z 0, 40, .inl ty)), ((aa 22), .inr (5, [.ref (aa 23), .int sn])), ((aa 23), .inr (1, [.ref (aa 24)])), ((aa 24), .inl (z 0, 100, .inl kp)), ((aa 25), .inr (1, [.ref (aa 26)])), ((aa 26), .inl (z 0, 5, .inl ek)), ((aa 27), .inr (1, [.ref (aa 28)])), ((aa 28), .inl (z 0, 8, .inl ef))] H := hP
          have hD : va_D A [((aa 0), .inr (6, [.ref (aa 1), .ref (aa 6), .ref (aa 15), .ref (aa 17), .ref (aa 22), .ref (aa 25), .ref (aa 27), .int dy])), ((aa 1), .inr (0, [.ref (aa 2), .ref (aa 4)])), ((aa 2), .inr (1, [.ref (aa 3)])), ((aa 3), .inl (z 0, 26, .inl pl)), ((aa 4), .inr (1, [.ref (aa 5)])), ((aa 5), .inl (z 0, 30, .inl lo)), ((aa 6), .inr (2, [.ref (aa 7), .ref (aa 9), .ref (aa 11), .ref (aa 13), .int wt, .int wh])), ((aa 7), .inr (1, [.ref (aa 8)])), ((aa 8), .inl (z 0, 26, .inl ct)), ((aa 9), .inr (1, [.ref (aa 10)])), ((aa 10), .inl (z 0, 26, .inl ti)), ((aa 11), .inr (1, [.ref (aa 12)])), ((aa 12), .inl (z 0, 26, .inl sh)), ((aa 13), .inr (1, [.ref (aa 14)])), ((aa 14), .inl (z 0, 676, .inl pr)), ((aa 15), .inr (4, [.ref (aa 16), .ref (aa 6)])), ((aa 16), .inl (z 1, 26, .inl ia)), ((aa 17), .inr (3, [.ref (aa 18), .ref (aa 20), .int zz, .int po, .int me, .int ml])), ((aa 18), .inr (1, [.ref (aa 19)])), ((aa 19), .inl (z 0, 40, .inl lt)), ((aa 20), .inr (1, [.ref (aa 21)])), ((aa 21), .inl (z 0, 40, .inl ty)), ((aa 22), .inr (5, [.ref (aa 23), .int sn])), ((aa 23), .inr (1, [.ref (aa 24)])), ((aa 24), .inl (z 0, 100, .inl kp)), ((aa 25), .inr (1, [.ref (aa 26)])), ((aa 26), .inl (z 0, 5, .inl ek)), ((aa 27), .inr (1, [.ref (aa 28)])), ((aa 28), .inl (z 0, 8, .inl ef))] := hD
          exact wr_i hx hb hr hlocks hP hD hS dL_act_189 rfl rfl (by omega) (by omega)
        · by_cases e2 : tAt lt zz po = -1
          · refine ⟨(pl, lo, ct, ti, sh, pr, ia, lt, ty, kp, ek, ef, wt, wh, zz, po, me, ml, sn, dy), -99999, CI_mono hI, fun _ => rfl, ?_⟩
            intro p l e s m below meth c D z q aa A H locs G hP hD hS ls hl
            obtain ⟨hx, hb, hr, hml, hts, hown, hlocks, hE, hA, hlt⟩ := G
            have hP : va_P D vwCl (coL z aa pl lo ct ti sh pr ia lt ty kp ek ef wt wh zz po me ml sn dy) H := hP
            have hD : va_D A (coL z aa pl lo ct ti sh pr ia lt ty kp ek ef wt wh zz po me ml sn dy) := hD
            refine lv_iload_n hx hb dL_act_114 rfl (lv_at hl 1 rfl) ?_
            refine lv_bipush (v := 6) hx hb dL_act_115 (by decide) ?_
            refine lv_icmp_ge (tgt := 130) hx hb dL_act_117 (by decide) (fun c_1 => ?_) (fun c_1 => absurd k0 c_1)
            refine lv_iload_n hx hb dL_act_130 rfl (lv_at hl 1 rfl) ?_
            refine lv_bipush (v := 20) hx hb dL_act_131 (by decide) ?_
            refine lv_icmp_ge (tgt := 190) hx hb dL_act_133 (by decide) (fun c_2 => absurd c_2 k1) (fun c_2 => ?_)
            refine lv_iload_n hx hb dL_act_136 rfl (lv_at hl 5 rfl) ?_
            refine lv_bipush (v := 16) hx hb dL_act_137 (by decide) ?_
            refine lv_ishr hx hb dL_act_139 ?_
            refine lv_iconst (v := 3) hx hb dL_act_140 (by decide) ?_
            refine lv_iand hx hb dL_act_141 ?_
            refine lv_if_le (tgt := 160) hx hb dL_act_142 (by decide) (fun c_3 => absurd c_3 hm) (fun c_3 => ?_)
            refine lv_aload_n hx hb dL_act_145 rfl (lv_at hl 4 rfl) ?_
            refine rdV (As := []) (rest := []) ⟨hx, hb, hml, hown, hts⟩ (c_X6_position l D z q (aa 0) (aa 1) (aa 6) (aa 15) (aa 17) (aa 22) (aa 25) (aa 27) dy (aa 18) (aa 19) (aa 20) (aa 21) lt ty zz po me ml) (cwV 0 hts gL_act_X6_position rfl rfl rfl hd_X6_position ⟨Nat.le_of_ble_eq_true rfl, Nat.le_of_ble_eq_true rfl⟩) hE hS hA hP [0, 17, 18, 19, 20, 21] rfl rfl rfl rfl rfl hl.1 rfl (Nat.le_of_ble_eq_true rfl) dL_act_146 ⟨(by show 0 + 0 ≤ 6; omega), (by show 0 + 0 ≤ 36; omega)⟩ ?_
            refine lv_aload_n hx hb dL_act_149 rfl (lv_at hl 4 rfl) ?_
            refine rdV (As := []) (rest := [.int po]) ⟨hx, hb, hml, hown, hts⟩ (c_X6_wanted l D z q (aa 0) (aa 1) (aa 6) (aa 15) (aa 17) (aa 22) (aa 25) (aa 27) dy (aa 18) (aa 19) (aa 20) (aa 21) lt ty zz po me ml) (cwV 0 hts gL_act_X6_wanted rfl rfl rfl hd_X6_wanted ⟨Nat.le_of_ble_eq_true rfl, Nat.le_of_ble_eq_true rfl⟩) hE hS hA hP [0, 17, 18, 19, 20, 21] rfl rfl rfl rfl rfl hl.1 rfl (Nat.le_of_ble_eq_true rfl) dL_act_150 ⟨(by show 0 + 0 ≤ 6; omega), (by show 0 + 0 ≤ 36; omega)⟩ ?_
            refine lv_icmp_ge (tgt := 160) hx hb dL_act_153 (by decide) (fun c_4 => absurd c_4 hp) (fun c_4 => ?_)
            refine lv_iconst (v := 1) hx hb dL_act_156 (by decide) ?_
            refine lv_goto (tgt := 161) hx hb dL_act_157 (by decide) ?_
            refine lv_istore (lv' := [(6, .int 1), (2, .int odd), (3, .int how), (4, .int letter), (5, .int millis), (0, .ref (aa 0)), (1, .int v)]) hx hb dL_act_161 hl (by decide) rfl (fun ls hl => ?_)
            refine lv_aload_n hx hb dL_act_163 rfl (lv_at hl 5 rfl) ?_
            refine lv_iconst (v := 3) hx hb dL_act_164 (by decide) ?_
            refine lv_iload hx hb dL_act_165 (lv_at hl 0 rfl) ?_
            refine lv_if_eq (tgt := 181) hx hb dL_act_167 (by decide) (fun c_5 => absurd c_5 (by decide)) (fun _ => ?_)
            refine lv_aload_n hx hb dL_act_170 rfl (lv_at hl 5 rfl) ?_
            refine lv_aload_n hx hb dL_act_171 rfl (lv_at hl 5 rfl) ?_
            refine rdV (As := []) (rest := [.ref (aa 0), .int 3, .ref (aa 0)]) ⟨hx, hb, hml, hown, hts⟩ (c_X6_position l D z q (aa 0) (aa 1) (aa 6) (aa 15) (aa 17) (aa 22) (aa 25) (aa 27) dy (aa 18) (aa 19) (aa 20) (aa 21) lt ty zz po me ml) (cwV 0 hts gL_act_X6_position rfl rfl rfl hd_X6_position ⟨Nat.le_of_ble_eq_true rfl, Nat.le_of_ble_eq_true rfl⟩) hE hS hA hP [0, 17, 18, 19, 20, 21] rfl rfl rfl rfl rfl hl.1 rfl (Nat.le_of_ble_eq_true rfl) dL_act_172 ⟨(by show 0 + 0 ≤ 6; omega), (by show 0 + 0 ≤ 36; omega)⟩ ?_
            refine txR (As := [.int po]) (rest := [.int 3, .ref (aa 0)]) ⟨hx, hb, hml, hown, hts⟩ (c_X6_wantedAt l D z q (aa 0) (aa 1) (aa 6) (aa 15) (aa 17) (aa 22) (aa 25) (aa 27) dy (aa 18) (aa 19) (aa 20) (aa 21) lt ty zz po me ml po H.size hlt) (cwV 1 hts gL_act_X6_wantedAt rfl rfl rfl hd_X6_wantedAt ⟨Nat.le_of_ble_eq_true rfl, Nat.le_of_ble_eq_true rfl⟩) hE hS hA hP hD [0, 17, 18, 19, 20, 21] rfl rfl rfl rfl rfl rfl hl.1 rfl (Nat.le_of_ble_eq_true rfl) dL_act_175 ⟨(by show 0 + 3 ≤ 6; omega), (by show 0 + 18 ≤ 36; omega)⟩ (fun E hbd => (hpw (hbd.1) : False).elim) (fun H locs hP hD hS => ?_)
            refine lv_goto (tgt := 183) hx hb dL_act_178 (by decide) ?_
            refine lv_iload hx hb dL_act_183 (lv_at hl 4 rfl) ?_
            refine lv_iconst (v := 0) hx hb dL_act_185 (by decide) ?_
            refine hwS (As := [.ref (aa 0), .int 3, .int (tAt lt zz po), .int millis, .int 0]) (rest := []) ⟨hx, hb, hml, hown, hts⟩ (c_L_does_3_2 l D z q (aa 0) (aa 1) (aa 6) (aa 15) (aa 17) (aa 22) (aa 25) (aa 27) dy (aa 2) (aa 3) (aa 4) (aa 5) pl lo (aa 7) (aa 8) (aa 9) (aa 10) (aa 11) (aa 12) (aa 13) (aa 14) ct ti sh pr wt wh (aa 18) (aa 19) (aa 20) (aa 21) lt ty zz po me ml (aa 26) ek (aa 28) ef (tAt lt zz po) (kKind pl lo lt ty zz po (tAt lt zz po) (tAt lt zz po)) _ _ _ _ _ _ _ (tAt lt zz po) millis 0 H.size rfl rfl rfl rfl rfl rfl rfl rfl rfl e0 e1 e2 hlt) (vx_cwSW 5 hts gL_act_L_does rfl rfl rfl hd_L_does ⟨Nat.le_of_ble_eq_true rfl, Nat.le_of_ble_eq_true rfl⟩) hE hS hA hP hD [0, 1, 2, 3, 4, 5, 6, 7, 8, 9, 10, 11, 12, 13, 14, 17, 18, 19, 20, 21, 25, 26, 27, 28] rfl rfl rfl rfl hl.1 rfl (Nat.le_of_ble_eq_true rfl) dL_act_186 ⟨(by show 3 + 3 ≤ 6; omega), (by show 18 + 18 ≤ 36; omega)⟩ (fun H locs hP hD hS => ?_)
            have hP : va_P D vwCl [((aa 0), .inr (6, [.ref (aa 1), .ref (aa 6), .ref (aa 15), .ref (aa 17), .ref (aa 22), .ref (aa 25), .ref (aa 27), .int dy])), ((aa 1), .inr (0, [.ref (aa 2), .ref (aa 4)])), ((aa 2), .inr (1, [.ref (aa 3)])), ((aa 3), .inl (z 0, 26, .inl pl)), ((aa 4), .inr (1, [.ref (aa 5)])), ((aa 5), .inl (z 0, 30, .inl lo)), ((aa 6), .inr (2, [.ref (aa 7), .ref (aa 9), .ref (aa 11), .ref (aa 13), .int wt, .int wh])), ((aa 7), .inr (1, [.ref (aa 8)])), ((aa 8), .inl (z 0, 26, .inl ct)), ((aa 9), .inr (1, [.ref (aa 10)])), ((aa 10), .inl (z 0, 26, .inl ti)), ((aa 11), .inr (1, [.ref (aa 12)])), ((aa 12), .inl (z 0, 26, .inl sh)), ((aa 13), .inr (1, [.ref (aa 14)])), ((aa 14), .inl (z 0, 676, .inl pr)), ((aa 15), .inr (4, [.ref (aa 16), .ref (aa 6)])), ((aa 16), .inl (z 1, 26, .inl ia)), ((aa 17), .inr (3, [.ref (aa 18), .ref (aa 20), .int zz, .int po, .int me, .int ml])), ((aa 18), .inr (1, [.ref (aa 19)])), ((aa 19), .inl (z 0, 40, .inl lt)), ((aa 20), .inr (1, [.ref (aa 21)])), ((aa 21), .inl (z 0, 40, .inl ty)), ((aa 22), .inr (5, [.ref (aa 23), .int sn])), ((aa 23), .inr (1, [.ref (aa 24)])), ((aa 24), .inl (z 0, 100, .inl kp)), ((aa 25), .inr (1, [.ref (aa 26)])), ((aa 26), .inl (z 0, 5, .inl ek)), ((aa 27), .inr (1, [.ref (aa 28)])), ((aa 28), .inl (z 0, 8, .inl ef))] H := hP
            have hD : va_D A [((aa 0), .inr (6, [.ref (aa 1), .ref (aa 6), .ref (aa 15), .ref (aa 17), .ref (aa 22), .ref (aa 25), .ref (aa 27), .int dy])), ((aa 1), .inr (0, [.ref (aa 2), .ref (aa 4)])), ((aa 2), .inr (1, [.ref (aa 3)])), ((aa 3), .inl (z 0, 26, .inl pl)), ((aa 4), .inr (1, [.ref (aa 5)])), ((aa 5), .inl (z 0, 30, .inl lo)), ((aa 6), .inr (2, [.ref (aa 7), .ref (aa 9), .ref (aa 11), .ref (aa 13), .int wt, .int wh])), ((aa 7), .inr (1, [.ref (aa 8)])), ((aa 8), .inl (z 0, 26, .inl ct)), ((aa 9), .inr (1, [.ref (aa 10)])), ((aa 10), .inl (z 0, 26, .inl ti)), ((aa 11), .inr (1, [.ref (aa 12)])), ((aa 12), .inl (z 0, 26, .inl sh)), ((aa 13), .inr (1, [.ref (aa 14)])), ((aa 14), .inl (z 0, 676, .inl pr)), ((aa 15), .inr (4, [.ref (aa 16), .ref (aa 6)])), ((aa 16), .inl (z 1, 26, .inl ia)), ((aa 17), .inr (3, [.ref (aa 18), .ref (aa 20), .int zz, .int po, .int me, .int ml])), ((aa 18), .inr (1, [.ref (aa 19)])), ((aa 19), .inl (z 0, 40, .inl lt)), ((aa 20), .inr (1, [.ref (aa 21)])), ((aa 21), .inl (z 0, 40, .inl ty)), ((aa 22), .inr (5, [.ref (aa 23), .int sn])), ((aa 23), .inr (1, [.ref (aa 24)])), ((aa 24), .inl (z 0, 100, .inl kp)), ((aa 25), .inr (1, [.ref (aa 26)])), ((aa 26), .inl (z 0, 5, .inl ek)), ((aa 27), .inr (1, [.ref (aa 28)])), ((aa 28), .inl (z 0, 8, .inl ef))] := hD
            exact wr_i hx hb hr hlocks hP hD hS dL_act_189 rfl rfl (by omega) (by omega)
          · obtain ⟨du, kd, ct1, ti1, sh1, pr1, ty1, ek1, ef1, ⟨hdu, hkd, hct, hti, hsh, hpr, hty, hek, hef⟩, ⟨-, -, -, -, -, -, -, -, -, -, -, -, hkn⟩, hC⟩ := CI_stroke hI e0 e1 e2
            refine ⟨(pl, lo, ct1, ti1, sh1, pr1, ia, lt, ty1, kp, ek1, ef1, wt, wh, zz, po + 1, me, ml + millis, sn, dy + 1), kd, hC, fun h => absurd h hkn, ?_⟩
            intro p l e s m below meth c D z q aa A H locs G hP hD hS ls hl
            obtain ⟨hx, hb, hr, hml, hts, hown, hlocks, hE, hA, hlt⟩ := G
            have hP : va_P D vwCl (coL z aa pl lo ct ti sh pr ia lt ty kp ek ef wt wh zz po me ml sn dy) H := hP
            have hD : va_D A (coL z aa pl lo ct ti sh pr ia lt ty kp ek ef wt wh zz po me ml sn dy) := hD
            refine lv_iload_n hx hb dL_act_114 rfl (lv_at hl 1 rfl) ?_
            refine lv_bipush (v := 6) hx hb dL_act_115 (by decide) ?_
            refine lv_icmp_ge (tgt := 130) hx hb dL_act_117 (by decide) (fun c_1 => ?_) (fun c_1 => absurd k0 c_1)
            refine lv_iload_n hx hb dL_act_130 rfl (lv_at hl 1 rfl) ?_
            refine lv_bipush (v := 20) hx hb dL_act_131 (by decide) ?_
            refine lv_icmp_ge (tgt := 190) hx hb dL_act_133 (by decide) (fun c_2 => absurd c_2 k1) (fun c_2 => ?_)
            refine lv_iload_n hx hb dL_act_136 rfl (lv_at hl 5 rfl) ?_
            refine lv_bipush (v := 16) hx hb dL_act_137 (by decide) ?_
            refine lv_ishr hx hb dL_act_139 ?_
            refine lv_iconst (v := 3) hx hb dL_act_140 (by decide) ?_
            refine lv_iand hx hb dL_act_141 ?_
            refine lv_if_le (tgt := 160) hx hb dL_act_142 (by decide) (fun c_3 => absurd c_3 hm) (fun c_3 => ?_)
            refine lv_aload_n hx hb dL_act_145 rfl (lv_at hl 4 rfl) ?_
            refine rdV (As := []) (rest := []) ⟨hx, hb, hml, hown, hts⟩ (c_X6_position l D z q (aa 0) (aa 1) (aa 6) (aa 15) (aa 17) (aa 22) (aa 25) (aa 27) dy (aa 18) (aa 19) (aa 20) (aa 21) lt ty zz po me ml) (cwV 0 hts gL_act_X6_position rfl rfl rfl hd_X6_position ⟨Nat.le_of_ble_eq_true rfl, Nat.le_of_ble_eq_true rfl⟩) hE hS hA hP [0, 17, 18, 19, 20, 21] rfl rfl rfl rfl rfl hl.1 rfl (Nat.le_of_ble_eq_true rfl) dL_act_146 ⟨(by show 0 + 0 ≤ 6; omega), (by show 0 + 0 ≤ 36; omega)⟩ ?_
            refine lv_aload_n hx hb dL_act_149 rfl (lv_at hl 4 rfl) ?_
            refine rdV (As := []) (rest := [.int po]) ⟨hx, hb, hml, hown, hts⟩ (c_X6_wanted l D z q (aa 0) (aa 1) (aa 6) (aa 15) (aa 17) (aa 22) (aa 25) (aa 27) dy (aa 18) (aa 19) (aa 20) (aa 21) lt ty zz po me ml) (cwV 0 hts gL_act_X6_wanted rfl rfl rfl hd_X6_wanted ⟨Nat.le_of_ble_eq_true rfl, Nat.le_of_ble_eq_true rfl⟩) hE hS hA hP [0, 17, 18, 19, 20, 21] rfl rfl rfl rfl rfl hl.1 rfl (Nat.le_of_ble_eq_true rfl) dL_act_150 ⟨(by show 0 + 0 ≤ 6; omega), (by show 0 + 0 ≤ 36; omega)⟩ ?_
            refine lv_icmp_ge (tgt := 160) hx hb dL_act_153 (by decide) (fun c_4 => absurd c_4 hp) (fun c_4 => ?_)
            refine lv_iconst (v := 1) hx hb dL_act_156 (by decide) ?_
            refine lv_goto (tgt := 161) hx hb dL_act_157 (by decide) ?_
            refine lv_istore (lv' := [(6, .int 1), (2, .int odd), (3, .int how), (4, .int letter), (5, .int millis), (0, .ref (aa 0)), (1, .int v)]) hx hb dL_act_161 hl (by decide) rfl (fun ls hl => ?_)
            refine lv_aload_n hx hb dL_act_163 rfl (lv_at hl 5 rfl) ?_
            refine lv_iconst (v := 3) hx hb dL_act_164 (by decide) ?_
            refine lv_iload hx hb dL_act_165 (lv_at hl 0 rfl) ?_
            refine lv_if_eq (tgt := 181) hx hb dL_act_167 (by decide) (fun c_5 => absurd c_5 (by decide)) (fun _ => ?_)
            refine lv_aload_n hx hb dL_act_170 rfl (lv_at hl 5 rfl) ?_
            refine lv_aload_n hx hb dL_act_171 rfl (lv_at hl 5 rfl) ?_
            refine rdV (As := []) (rest := [.ref (aa 0), .int 3, .ref (aa 0)]) ⟨hx, hb, hml, hown, hts⟩ (c_X6_position l D z q (aa 0) (aa 1) (aa 6) (aa 15) (aa 17) (aa 22) (aa 25) (aa 27) dy (aa 18) (aa 19) (aa 20) (aa 21) lt ty zz po me ml) (cwV 0 hts gL_act_X6_position rfl rfl rfl hd_X6_position ⟨Nat.le_of_ble_eq_true rfl, Nat.le_of_ble_eq_true rfl⟩) hE hS hA hP [0, 17, 18, 19, 20, 21] rfl rfl rfl rfl rfl hl.1 rfl (Nat.le_of_ble_eq_true rfl) dL_act_172 ⟨(by show 0 + 0 ≤ 6; omega), (by show 0 + 0 ≤ 36; omega)⟩ ?_
            refine txR (As := [.int po]) (rest := [.int 3, .ref (aa 0)]) ⟨hx, hb, hml, hown, hts⟩ (c_X6_wantedAt l D z q (aa 0) (aa 1) (aa 6) (aa 15) (aa 17) (aa 22) (aa 25) (aa 27) dy (aa 18) (aa 19) (aa 20) (aa 21) lt ty zz po me ml po H.size hlt) (cwV 1 hts gL_act_X6_wantedAt rfl rfl rfl hd_X6_wantedAt ⟨Nat.le_of_ble_eq_true rfl, Nat.le_of_ble_eq_true rfl⟩) hE hS hA hP hD [0, 17, 18, 19, 20, 21] rfl rfl rfl rfl rfl rfl hl.1 rfl (Nat.le_of_ble_eq_true rfl) dL_act_175 ⟨(by show 0 + 3 ≤ 6; omega), (by show 0 + 18 ≤ 36; omega)⟩ (fun E hbd => (hpw (hbd.1) : False).elim) (fun H locs hP hD hS => ?_)
            refine lv_goto (tgt := 183) hx hb dL_act_178 (by decide) ?_
            refine lv_iload hx hb dL_act_183 (lv_at hl 4 rfl) ?_
            refine lv_iconst (v := 0) hx hb dL_act_185 (by decide) ?_
            refine hwS (As := [.ref (aa 0), .int 3, .int (tAt lt zz po), .int millis, .int 0]) (rest := []) ⟨hx, hb, hml, hown, hts⟩ (c_L_does_3_3 l D z q (aa 0) (aa 1) (aa 6) (aa 15) (aa 17) (aa 22) (aa 25) (aa 27) dy (aa 2) (aa 3) (aa 4) (aa 5) pl lo (aa 7) (aa 8) (aa 9) (aa 10) (aa 11) (aa 12) (aa 13) (aa 14) ct ti sh pr wt wh (aa 18) (aa 19) (aa 20) (aa 21) lt ty zz po me ml (aa 26) ek (aa 28) ef du kd ct1 ti1 sh1 pr1 ty1 ek1 ef1 (tAt lt zz po) millis 0 H.size hdu hkd hct hti hsh hpr hty hek hef e0 e1 e2 hlt) (vx_cwSW 5 hts gL_act_L_does rfl rfl rfl hd_L_does ⟨Nat.le_of_ble_eq_true rfl, Nat.le_of_ble_eq_true rfl⟩) hE hS hA hP hD [0, 1, 2, 3, 4, 5, 6, 7, 8, 9, 10, 11, 12, 13, 14, 17, 18, 19, 20, 21, 25, 26, 27, 28] rfl rfl rfl rfl hl.1 rfl (Nat.le_of_ble_eq_true rfl) dL_act_186 ⟨(by show 3 + 3 ≤ 6; omega), (by show 18 + 18 ≤ 36; omega)⟩ (fun H locs hP hD hS => ?_)
            have hP : va_P D vwCl [((aa 0), .inr (6, [.ref (aa 1), .ref (aa 6), .ref (aa 15), .ref (aa 17), .ref (aa 22), .ref (aa 25), .ref (aa 27), .int (dy + 1)])), ((aa 1), .inr (0, [.ref (aa 2), .ref (aa 4)])), ((aa 2), .inr (1, [.ref (aa 3)])), ((aa 3), .inl (z 0, 26, .inl pl)), ((aa 4), .inr (1, [.ref (aa 5)])), ((aa 5), .inl (z 0, 30, .inl lo)), ((aa 6), .inr (2, [.ref (aa 7), .ref (aa 9), .ref (aa 11), .ref (aa 13), .int wt, .int wh])), ((aa 7), .inr (1, [.ref (aa 8)])), ((aa 8), .inl (z 0, 26, .inl ct1)), ((aa 9), .inr (1, [.ref (aa 10)])), ((aa 10), .inl (z 0, 26, .inl ti1)), ((aa 11), .inr (1, [.ref (aa 12)])), ((aa 12), .inl (z 0, 26, .inl sh1)), ((aa 13), .inr (1, [.ref (aa 14)])), ((aa 14), .inl (z 0, 676, .inl pr1)), ((aa 15), .inr (4, [.ref (aa 16), .ref (aa 6)])), ((aa 16), .inl (z 1, 26, .inl ia)), ((aa 17), .inr (3, [.ref (aa 18), .ref (aa 20), .int zz, .int (po + 1), .int me, .int (ml + millis)])), ((aa 18), .inr (1, [.ref (aa 19)])), ((aa 19), .inl (z 0, 40, .inl lt)), ((aa 20), .inr (1, [.ref (aa 21)])), ((aa 21), .inl (z 0, 40, .inl ty1)), ((aa 22), .inr (5, [.ref (aa 23), .int sn])), ((aa 23), .inr (1, [.ref (aa 24)])), ((aa 24), .inl (z 0, 100, .inl kp)), ((aa 25), .inr (1, [.ref (aa 26)])), ((aa 26), .inl (z 0, 5, .inl ek1)), ((aa 27), .inr (1, [.ref (aa 28)])), ((aa 28), .inl (z 0, 8, .inl ef1))] H := hP
            have hD : va_D A [((aa 0), .inr (6, [.ref (aa 1), .ref (aa 6), .ref (aa 15), .ref (aa 17), .ref (aa 22), .ref (aa 25), .ref (aa 27), .int (dy + 1)])), ((aa 1), .inr (0, [.ref (aa 2), .ref (aa 4)])), ((aa 2), .inr (1, [.ref (aa 3)])), ((aa 3), .inl (z 0, 26, .inl pl)), ((aa 4), .inr (1, [.ref (aa 5)])), ((aa 5), .inl (z 0, 30, .inl lo)), ((aa 6), .inr (2, [.ref (aa 7), .ref (aa 9), .ref (aa 11), .ref (aa 13), .int wt, .int wh])), ((aa 7), .inr (1, [.ref (aa 8)])), ((aa 8), .inl (z 0, 26, .inl ct1)), ((aa 9), .inr (1, [.ref (aa 10)])), ((aa 10), .inl (z 0, 26, .inl ti1)), ((aa 11), .inr (1, [.ref (aa 12)])), ((aa 12), .inl (z 0, 26, .inl sh1)), ((aa 13), .inr (1, [.ref (aa 14)])), ((aa 14), .inl (z 0, 676, .inl pr1)), ((aa 15), .inr (4, [.ref (aa 16), .ref (aa 6)])), ((aa 16), .inl (z 1, 26, .inl ia)), ((aa 17), .inr (3, [.ref (aa 18), .ref (aa 20), .int zz, .int (po + 1), .int me, .int (ml + millis)])), ((aa 18), .inr (1, [.ref (aa 19)])), ((aa 19), .inl (z 0, 40, .inl lt)), ((aa 20), .inr (1, [.ref (aa 21)])), ((aa 21), .inl (z 0, 40, .inl ty1)), ((aa 22), .inr (5, [.ref (aa 23), .int sn])), ((aa 23), .inr (1, [.ref (aa 24)])), ((aa 24), .inl (z 0, 100, .inl kp)), ((aa 25), .inr (1, [.ref (aa 26)])), ((aa 26), .inl (z 0, 5, .inl ek1)), ((aa 27), .inr (1, [.ref (aa 28)])), ((aa 28), .inl (z 0, 8, .inl ef1))] := hD
            exact wr_i hx hb hr hlocks hP hD hS dL_act_189 rfl rfl (by omega) (by omega)
set_option maxHeartbeats 8000000 in
set_option maxRecDepth 100000 in
theorem act_t2 {N : Nat} {pl lo ct ti sh pr ia lt ty kp ek ef : Fn} {wt wh zz po me ml sn dy : Int32} (hI : CI N pl lo ct ti sh pr ia lt ty kp ek ef wt wh zz po me ml sn dy) (hN : N < 1000) (v odd how letter millis : Int32) (k0 : 6 ≤ how) (k1 : 20 ≤ how) (k2 : ¬ 23 ≤ how) : ∃ (S9 : Co) (a : Int32), CIN (N + 1) S9 ∧ (a = -99999 → S9 = (pl, lo, ct, ti, sh, pr, ia, lt, ty, kp, ek, ef, wt, wh, zz, po, me, ml, sn, dy)) ∧ ACTX (pl, lo, ct, ti, sh, pr, ia, lt, ty, kp, ek, ef, wt, wh, zz, po, me, ml, sn, dy) S9 a v odd how letter millis 114 := by
  have ⟨zn, hzz, hz40, hlt9, ps, hpo, hps, hty9⟩ := hI.1.2.2.2.1
  by_cases e0 : bW millis 1 5000 = 0
  · refine ⟨(pl, lo, ct, ti, sh, pr, ia, lt, ty, kp, ek, ef, wt, wh, zz, po, me, ml, sn, dy), -99999, CI_mono hI, fun _ => rfl, ?_⟩
    intro p l e s m below meth c D z q aa A H locs G hP hD hS ls hl
    obtain ⟨hx, hb, hr, hml, hts, hown, hlocks, hE, hA, hlt⟩ := G
    have hP : va_P D vwCl (coL z aa pl lo ct ti sh pr ia lt ty kp ek ef wt wh zz po me ml sn dy) H := hP
    have hD : va_D A (coL z aa pl lo ct ti sh pr ia lt ty kp ek ef wt wh zz po me ml sn dy) := hD
    refine lv_iload_n hx hb dL_act_114 rfl (lv_at hl 1 rfl) ?_
    refine lv_bipush (v := 6) hx hb dL_act_115 (by decide) ?_
    refine lv_icmp_ge (tgt := 130) hx hb dL_act_117 (by decide) (fun c_1 => ?_) (fun c_1 => absurd k0 c_1)
    refine lv_iload_n hx hb dL_act_130 rfl (lv_at hl 1 rfl) ?_
    refine lv_bipush (v := 20) hx hb dL_act_131 (by decide) ?_
    refine lv_icmp_ge (tgt := 190) hx hb dL_act_133 (by decide) (fun c_2 => ?_) (fun c_2 => absurd k1 c_2)
    refine lv_iload_n hx hb dL_act_190 rfl (lv_at hl 1 rfl) ?_
    refine lv_bipush (v := 23) hx hb dL_act_191 (by decide) ?_
    refine lv_icmp_ge (tgt := 206) hx hb dL_act_193 (by decide) (fun c_3 => absurd c_3 k2) (fun c_3 => ?_)
    refine lv_aload_n hx hb dL_act_196 rfl (lv_at hl 4 rfl) ?_
    refine lv_iconst (v := 4) hx hb dL_act_197 (by decide) ?_
    refine lv_iload hx hb dL_act_198 (lv_at hl 3 rfl) ?_
    refine lv_iconst (v := 0) hx hb dL_act_200 (by decide) ?_
    refine lv_iconst (v := 0) hx hb dL_act_201 (by decide) ?_
    refine hwS (As := [.ref (aa 0), .int 4, .int millis, .int 0, .int 0]) (rest := []) ⟨hx, hb, hml, hown, hts⟩ (c_L_does_4_0 l D z q (aa 0) (aa 1) (aa 6) (aa 15) (aa 17) (aa 22) (aa 25) (aa 27) dy (aa 18) (aa 19) (aa 20) (aa 21) lt ty zz po me ml millis 0 0 H.size e0 hlt) (vx_cwSW 5 hts gL_act_L_does rfl rfl rfl hd_L_does ⟨Nat.le_of_ble_eq_true rfl, Nat.le_of_ble_eq_true rfl⟩) hE hS hA hP hD [0, 17, 18, 19, 20, 21] rfl rfl rfl rfl hl.1 rfl (Nat.le_of_ble_eq_true rfl) dL_act_202 ⟨(by show 0 + 3 ≤ 6; omega), (by show 0 + 18 ≤ 36; omega)⟩ (fun H locs hP hD hS => ?_)
    have hP : va_P D vwCl [((aa 0), .inr (6, [.ref (aa 1), .ref (aa 6), .ref (aa 15), .ref (aa 17), .ref (aa 22), .ref (aa 25), .ref (aa 27), .int dy])), ((aa 1), .inr (0, [.ref (aa 2), .ref (aa 4)])), ((aa 2), .inr (1, [.ref (aa 3)])), ((aa 3), .inl (z 0, 26, .inl pl)), ((aa 4), .inr (1, [.ref (aa 5)])), ((aa 5), .inl (z 0, 30, .inl lo)), ((aa 6), .inr (2, [.ref (aa 7), .ref (aa 9), .ref (aa 11), .ref (aa 13), .int wt, .int wh])), ((aa 7), .inr (1, [.ref (aa 8)])), ((aa 8), .inl (z 0, 26, .inl ct)), ((aa 9), .inr (1, [.ref (aa 10)])), ((aa 10), .inl (z 0, 26, .inl ti)), ((aa 11), .inr (1, [.ref (aa 12)])), ((aa 12), .inl (z 0, 26, .inl sh)), ((aa 13), .inr (1, [.ref (aa 14)])), ((aa 14), .inl (z 0, 676, .inl pr)), ((aa 15), .inr (4, [.ref (aa 16), .ref (aa 6)])), ((aa 16), .inl (z 1, 26, .inl ia)), ((aa 17), .inr (3, [.ref (aa 18), .ref (aa 20), .int zz, .int po, .int me, .int ml])), ((aa 18), .inr (1, [.ref (aa 19)])), ((aa 19), .inl (z 0, 40, .inl lt)), ((aa 20), .inr (1, [.ref (aa 21)])), ((aa 21), .inl (z 0, 40, .inl ty)), ((aa 22), .inr (5, [.ref (aa 23), .int sn])), ((aa 23), .inr (1, [.ref (aa 24)])), ((aa 24), .inl (z 0, 100, .inl kp)), ((aa 25), .inr (1, [.ref (aa 26)])), ((aa 26), .inl (z 0, 5, .inl ek)), ((aa 27), .inr (1, [.ref (aa 28)])), ((aa 28), .inl (z 0, 8, .inl ef))] H := hP
    have hD : va_D A [((aa 0), .inr (6, [.ref (aa 1), .ref (aa 6), .ref (aa 15), .ref (aa 17), .ref (aa 22), .ref (aa 25), .ref (aa 27), .int dy])), ((aa 1), .inr (0, [.ref (aa 2), .ref (aa 4)])), ((aa 2), .inr (1, [.ref (aa 3)])), ((aa 3), .inl (z 0, 26, .inl pl)), ((aa 4), .inr (1, [.ref (aa 5)])), ((aa 5), .inl (z 0, 30, .inl lo)), ((aa 6), .inr (2, [.ref (aa 7), .ref (aa 9), .ref (aa 11), .ref (aa 13), .int wt, .int wh])), ((aa 7), .inr (1, [.ref (aa 8)])), ((aa 8), .inl (z 0, 26, .inl ct)), ((aa 9), .inr (1, [.ref (aa 10)])), ((aa 10), .inl (z 0, 26, .inl ti)), ((aa 11), .inr (1, [.ref (aa 12)])), ((aa 12), .inl (z 0, 26, .inl sh)), ((aa 13), .inr (1, [.ref (aa 14)])), ((aa 14), .inl (z 0, 676, .inl pr)), ((aa 15), .inr (4, [.ref (aa 16), .ref (aa 6)])), ((aa 16), .inl (z 1, 26, .inl ia)), ((aa 17), .inr (3, [.ref (aa 18), .ref (aa 20), .int zz, .int po, .int me, .int ml])), ((aa 18), .inr (1, [.ref (aa 19)])), ((aa 19), .inl (z 0, 40, .inl lt)), ((aa 20), .inr (1, [.ref (aa 21)])), ((aa 21), .inl (z 0, 40, .inl ty)), ((aa 22), .inr (5, [.ref (aa 23), .int sn])), ((aa 23), .inr (1, [.ref (aa 24)])), ((aa 24), .inl (z 0, 100, .inl kp)), ((aa 25), .inr (1, [.ref (aa 26)])), ((aa 26), .inl (z 0, 5, .inl ek)), ((aa 27), .inr (1, [.ref (aa 28)])), ((aa 28), .inl (z 0, 8, .inl ef))] := hD
    exact wr_i hx hb hr hlocks hP hD hS dL_act_205 rfl rfl (by omega) (by omega)
  · by_cases e1 : po = 0
    · refine ⟨(pl, lo, ct, ti, sh, pr, ia, lt, ty, kp, ek, ef, wt, wh, zz, po, me, ml, sn, dy), -99999, CI_mono hI, fun _ => rfl, ?_⟩
      intro p l e s m below meth c D z q aa A H locs G hP hD hS ls hl
      obtain ⟨hx, hb, hr, hml, hts, hown, hlocks, hE, hA, hlt⟩ := G
      have hP : va_P D vwCl (coL z aa pl lo ct ti sh pr ia lt ty kp ek ef wt wh zz po me ml sn dy) H := hP
      have hD : va_D A (coL z aa pl lo ct ti sh pr ia lt ty kp ek ef wt wh zz po me ml sn dy) := hD
      refine lv_iload_n hx hb dL_act_114 rfl (lv_at hl 1 rfl) ?_
      refine lv_bipush (v := 6) hx hb dL_act_115 (by decide) ?_
      refine lv_icmp_ge (tgt := 130) hx hb dL_act_117 (by decide) (fun c_1 => ?_) (fun c_1 => absurd k0 c_1)
      refine lv_iload_n hx hb dL_act_130 rfl (lv_at hl 1 rfl) ?_
      refine lv_bipush (v := 20) hx hb dL_act_131 (by decide) ?_
      refine lv_icmp_ge (tgt := 190) hx hb dL_act_133 (by decide) (fun c_2 => ?_) (fun c_2 => absurd k1 c_2)
      refine lv_iload_n hx hb dL_act_190 rfl (lv_at hl 1 rfl) ?_
      refine lv_bipush (v := 23) hx hb dL_act_191 (by decide) ?_
      refine lv_icmp_ge (tgt := 206) hx hb dL_act_193 (by decide) (fun c_3 => absurd c_3 k2) (fun c_3 => ?_)
      refine lv_aload_n hx hb dL_act_196 rfl (lv_at hl 4 rfl) ?_
      refine lv_iconst (v := 4) hx hb dL_act_197 (by decide) ?_
      refine lv_iload hx hb dL_act_198 (lv_at hl 3 rfl) ?_
      refine lv_iconst (v := 0) hx hb dL_act_200 (by decide) ?_
      refine lv_iconst (v := 0) hx hb dL_act_201 (by decide) ?_
      refine hwS (As := [.ref (aa 0), .int 4, .int millis, .int 0, .int 0]) (rest := []) ⟨hx, hb, hml, hown, hts⟩ (c_L_does_4_1 l D z q (aa 0) (aa 1) (aa 6) (aa 15) (aa 17) (aa 22) (aa 25) (aa 27) dy (aa 18) (aa 19) (aa 20) (aa 21) lt ty zz po me ml millis 0 0 H.size e0 e1 hlt) (vx_cwSW 5 hts gL_act_L_does rfl rfl rfl hd_L_does ⟨Nat.le_of_ble_eq_true rfl, Nat.le_of_ble_eq_true rfl⟩) hE hS hA hP hD [0, 17, 18, 19, 20, 21] rfl rfl rfl rfl hl.1 rfl (Nat.le_of_ble_eq_true rfl) dL_act_202 ⟨(by show 0 + 3 ≤ 6; omega), (by show 0 + 18 ≤ 36; omega)⟩ (fun H locs hP hD hS => ?_)
      have hP : va_P D vwCl [((aa 0), .inr (6, [.ref (aa 1), .ref (aa 6), .ref (aa 15), .ref (aa 17), .ref (aa 22), .ref (aa 25), .ref (aa 27), .int dy])), ((aa 1), .inr (0, [.ref (aa 2), .ref (aa 4)])), ((aa 2), .inr (1, [.ref (aa 3)])), ((aa 3), .inl (z 0, 26, .inl pl)), ((aa 4), .inr (1, [.ref (aa 5)])), ((aa 5), .inl (z 0, 30, .inl lo)), ((aa 6), .inr (2, [.ref (aa 7), .ref (aa 9), .ref (aa 11), .ref (aa 13), .int wt, .int wh])), ((aa 7), .inr (1, [.ref (aa 8)])), ((aa 8), .inl (z 0, 26, .inl ct)), ((aa 9), .inr (1, [.ref (aa 10)])), ((aa 10), .inl (z 0, 26, .inl ti)), ((aa 11), .inr (1, [.ref (aa 12)])), ((aa 12), .inl (z 0, 26, .inl sh)), ((aa 13), .inr (1, [.ref (aa 14)])), ((aa 14), .inl (z 0, 676, .inl pr)), ((aa 15), .inr (4, [.ref (aa 16), .ref (aa 6)])), ((aa 16), .inl (z 1, 26, .inl ia)), ((aa 17), .inr (3, [.ref (aa 18), .ref (aa 20), .int zz, .int po, .int me, .int ml])), ((aa 18), .inr (1, [.ref (aa 19)])), ((aa 19), .inl (z 0, 40, .inl lt)), ((aa 20), .inr (1, [.ref (aa 21)])), ((aa 21), .inl (z 0, 40, .inl ty)), ((aa 22), .inr (5, [.ref (aa 23), .int sn])), ((aa 23), .inr (1, [.ref (aa 24)])), ((aa 24), .inl (z 0, 100, .inl kp)), ((aa 25), .inr (1, [.ref (aa 26)])), ((aa 26), .inl (z 0, 5, .inl ek)), ((aa 27), .inr (1, [.ref (aa 28)])), ((aa 28), .inl (z 0, 8, .inl ef))] H := hP
      have hD : va_D A [((aa 0), .inr (6, [.ref (aa 1), .ref (aa 6), .ref (aa 15), .ref (aa 17), .ref (aa 22), .ref (aa 25), .ref (aa 27), .int dy])), ((aa 1), .inr (0, [.ref (aa 2), .ref (aa 4)])), ((aa 2), .inr (1, [.ref (aa 3)])), ((aa 3), .inl (z 0, 26, .inl pl)), ((aa 4), .inr (1, [.ref (aa 5)])), ((aa 5), .inl (z 0, 30, .inl lo)), ((aa 6), .inr (2, [.ref (aa 7), .ref (aa 9), .ref (aa 11), .ref (aa 13), .int wt, .int wh])), ((aa 7), .inr (1, [.ref (aa 8)])), ((aa 8), .inl (z 0, 26, .inl ct)), ((aa 9), .inr (1, [.ref (aa 10)])), ((aa 10), .inl (z 0, 26, .inl ti)), ((aa 11), .inr (1, [.ref (aa 12)])), ((aa 12), .inl (z 0, 26, .inl sh)), ((aa 13), .inr (1, [.ref (aa 14)])), ((aa 14), .inl (z 0, 676, .inl pr)), ((aa 15), .inr (4, [.ref (aa 16), .ref (aa 6)])), ((aa 16), .inl (z 1, 26, .inl ia)), ((aa 17), .inr (3, [.ref (aa 18), .ref (aa 20), .int zz, .int po, .int me, .int ml])), ((aa 18), .inr (1, [.ref (aa 19)])), ((aa 19), .inl (z 0, 40, .inl lt)), ((aa 20), .inr (1, [.ref (aa 21)])), ((aa 21), .inl (z 0, 40, .inl ty)), ((aa 22), .inr (5, [.ref (aa 23), .int sn])), ((aa 23), .inr (1, [.ref (aa 24)])), ((aa 24), .inl (z 0, 100, .inl kp)), ((aa 25), .inr (1, [.ref (aa 26)])), ((aa 26), .inl (z 0, 5, .inl ek)), ((aa 27), .inr (1, [.ref (aa 28)])), ((aa 28), .inl (z 0, 8, .inl ef))] := hD
      exact wr_i hx hb hr hlocks hP hD hS dL_act_205 rfl rfl (by omega) (by omega)
    · refine ⟨(pl, lo, ct, ti, sh, pr, ia, lt, ty, kp, ek, ef, wt, wh, zz, po - 1, me + 1, ml + millis, sn, dy), po - 1, (CI_back hI e0 e1).1, fun h => absurd h (CI_back hI e0 e1).2, ?_⟩
      intro p l e s m below meth c D z q aa A H locs G hP hD hS ls hl
      obtain ⟨hx, hb, hr, hml, hts, hown, hlocks, hE, hA, hlt⟩ := G
      have hP : va_P D vwCl (coL z aa pl lo ct ti sh pr ia lt ty kp ek ef wt wh zz po me ml sn dy) H := hP
      have hD : va_D A (coL z aa pl lo ct ti sh pr ia lt ty kp ek ef wt wh zz po me ml sn dy) := hD
      refine lv_iload_n hx hb dL_act_114 rfl (lv_at hl 1 rfl) ?_
      refine lv_bipush (v := 6) hx hb dL_act_115 (by decide) ?_
      refine lv_icmp_ge (tgt := 130) hx hb dL_act_117 (by decide) (fun c_1 => ?_) (fun c_1 => absurd k0 c_1)
      refine lv_iload_n hx hb dL_act_130 rfl (lv_at hl 1 rfl) ?_
      refine lv_bipush (v := 20) hx hb dL_act_131 (by decide) ?_
      refine lv_icmp_ge (tgt := 190) hx hb dL_act_133 (by decide) (fun c_2 => ?_) (fun c_2 => absurd k1 c_2)
      refine lv_iload_n hx hb dL_act_190 rfl (lv_at hl 1 rfl) ?_
      refine lv_bipush (v := 23) hx hb dL_act_191 (by decide) ?_
      refine lv_icmp_ge (tgt := 206) hx hb dL_act_193 (by decide) (fun c_3 => absurd c_3 k2) (fun c_3 => ?_)
      refine lv_aload_n hx hb dL_act_196 rfl (lv_at hl 4 rfl) ?_
      refine lv_iconst (v := 4) hx hb dL_act_197 (by decide) ?_
      refine lv_iload hx hb dL_act_198 (lv_at hl 3 rfl) ?_
      refine lv_iconst (v := 0) hx hb dL_act_200 (by decide) ?_
      refine lv_iconst (v := 0) hx hb dL_act_201 (by decide) ?_
      refine hwS (As := [.ref (aa 0), .int 4, .int millis, .int 0, .int 0]) (rest := []) ⟨hx, hb, hml, hown, hts⟩ (c_L_does_4_2 l D z q (aa 0) (aa 1) (aa 6) (aa 15) (aa 17) (aa 22) (aa 25) (aa 27) dy (aa 18) (aa 19) (aa 20) (aa 21) lt ty zz po me ml millis 0 0 H.size e0 e1 hlt) (vx_cwSW 5 hts gL_act_L_does rfl rfl rfl hd_L_does ⟨Nat.le_of_ble_eq_true rfl, Nat.le_of_ble_eq_true rfl⟩) hE hS hA hP hD [0, 17, 18, 19, 20, 21] rfl rfl rfl rfl hl.1 rfl (Nat.le_of_ble_eq_true rfl) dL_act_202 ⟨(by show 0 + 3 ≤ 6; omega), (by show 0 + 18 ≤ 36; omega)⟩ (fun H locs hP hD hS => ?_)
      have hP : va_P D vwCl [((aa 0), .inr (6, [.ref (aa 1), .ref (aa 6), .ref (aa 15), .ref (aa 17), .ref (aa 22), .ref (aa 25), .ref (aa 27), .int dy])), ((aa 1), .inr (0, [.ref (aa 2), .ref (aa 4)])), ((aa 2), .inr (1, [.ref (aa 3)])), ((aa 3), .inl (z 0, 26, .inl pl)), ((aa 4), .inr (1, [.ref (aa 5)])), ((aa 5), .inl (z 0, 30, .inl lo)), ((aa 6), .inr (2, [.ref (aa 7), .ref (aa 9), .ref (aa 11), .ref (aa 13), .int wt, .int wh])), ((aa 7), .inr (1, [.ref (aa 8)])), ((aa 8), .inl (z 0, 26, .inl ct)), ((aa 9), .inr (1, [.ref (aa 10)])), ((aa 10), .inl (z 0, 26, .inl ti)), ((aa 11), .inr (1, [.ref (aa 12)])), ((aa 12), .inl (z 0, 26, .inl sh)), ((aa 13), .inr (1, [.ref (aa 14)])), ((aa 14), .inl (z 0, 676, .inl pr)), ((aa 15), .inr (4, [.ref (aa 16), .ref (aa 6)])), ((aa 16), .inl (z 1, 26, .inl ia)), ((aa 17), .inr (3, [.ref (aa 18), .ref (aa 20), .int zz, .int (po - 1), .int (me + 1), .int (ml + millis)])), ((aa 18), .inr (1, [.ref (aa 19)])), ((aa 19), .inl (z 0, 40, .inl lt)), ((aa 20), .inr (1, [.ref (aa 21)])), ((aa 21), .inl (z 0, 40, .inl ty)), ((aa 22), .inr (5, [.ref (aa 23), .int sn])), ((aa 23), .inr (1, [.ref (aa 24)])), ((aa 24), .inl (z 0, 100, .inl kp)), ((aa 25), .inr (1, [.ref (aa 26)])), ((aa 26), .inl (z 0, 5, .inl ek)), ((aa 27), .inr (1, [.ref (aa 28)])), ((aa 28), .inl (z 0, 8, .inl ef))] H := hP
      have hD : va_D A [((aa 0), .inr (6, [.ref (aa 1), .ref (aa 6), .ref (aa 15), .ref (aa 17), .ref (aa 22), .ref (aa 25), .ref (aa 27), .int dy])), ((aa 1), .inr (0, [.ref (aa 2), .ref (aa 4)])), ((aa 2), .inr (1, [.ref (aa 3)])), ((aa 3), .inl (z 0, 26, .inl pl)), ((aa 4), .inr (1, [.ref (aa 5)])), ((aa 5), .inl (z 0, 30, .inl lo)), ((aa 6), .inr (2, [.ref (aa 7), .ref (aa 9), .ref (aa 11), .ref (aa 13), .int wt, .int wh])), ((aa 7), .inr (1, [.ref (aa 8)])), ((aa 8), .inl (z 0, 26, .inl ct)), ((aa 9), .inr (1, [.ref (aa 10)])), ((aa 10), .inl (z 0, 26, .inl ti)), ((aa 11), .inr (1, [.ref (aa 12)])), ((aa 12), .inl (z 0, 26, .inl sh)), ((aa 13), .inr (1, [.ref (aa 14)])), ((aa 14), .inl (z 0, 676, .inl pr)), ((aa 15), .inr (4, [.ref (aa 16), .ref (aa 6)])), ((aa 16), .inl (z 1, 26, .inl ia)), ((aa 17), .inr (3, [.ref (aa 18), .ref (aa 20), .int zz, .int (po - 1), .int (me + 1), .int (ml + millis)])), ((aa 18), .inr (1, [.ref (aa 19)])), ((aa 19), .inl (z 0, 40, .inl lt)), ((aa 20), .inr (1, [.ref (aa 21)])), ((aa 21), .inl (z 0, 40, .inl ty)), ((aa 22), .inr (5, [.ref (aa 23), .int sn])), ((aa 23), .inr (1, [.ref (aa 24)])), ((aa 24), .inl (z 0, 100, .inl kp)), ((aa 25), .inr (1, [.ref (aa 26)])), ((aa 26), .inl (z 0, 5, .inl ek)), ((aa 27), .inr (1, [.ref (aa 28)])), ((aa 28), .inl (z 0, 8, .inl ef))] := hD
      exact wr_i hx hb hr hlocks hP hD hS dL_act_205 rfl rfl (by omega) (by omega)
set_option maxHeartbeats 8000000 in
set_option maxRecDepth 100000 in
theorem act_t3 {N : Nat} {pl lo ct ti sh pr ia lt ty kp ek ef : Fn} {wt wh zz po me ml sn dy : Int32} (hI : CI N pl lo ct ti sh pr ia lt ty kp ek ef wt wh zz po me ml sn dy) (hN : N < 1000) (v odd how letter millis : Int32) (k0 : 6 ≤ how) (k1 : 20 ≤ how) (k2 : 23 ≤ how) (k3 : ¬ 25 ≤ how) : ∃ (S9 : Co) (a : Int32), CIN (N + 1) S9 ∧ (a = -99999 → S9 = (pl, lo, ct, ti, sh, pr, ia, lt, ty, kp, ek, ef, wt, wh, zz, po, me, ml, sn, dy)) ∧ ACTX (pl, lo, ct, ti, sh, pr, ia, lt, ty, kp, ek, ef, wt, wh, zz, po, me, ml, sn, dy) S9 a v odd how letter millis 114 := by
  have ⟨zn, hzz, hz40, hlt9, ps, hpo, hps, hty9⟩ := hI.1.2.2.2.1
  by_cases ho : odd = 0
  · by_cases e0 : bW ((1 : Int32) + (lLow (lSh v 6) 8)) 1 40 = 0
    · refine ⟨(pl, lo, ct, ti, sh, pr, ia, lt, ty, kp, ek, ef, wt, wh, zz, po, me, ml, sn, dy), -99999, CI_mono hI, fun _ => rfl, ?_⟩
      intro p l e s m below meth c D z q aa A H locs G hP hD hS ls hl
      obtain ⟨hx, hb, hr, hml, hts, hown, hlocks, hE, hA, hlt⟩ := G
      have hP : va_P D vwCl (coL z aa pl lo ct ti sh pr ia lt ty kp ek ef wt wh zz po me ml sn dy) H := hP
      have hD : va_D A (coL z aa pl lo ct ti sh pr ia lt ty kp ek ef wt wh zz po me ml sn dy) := hD
      refine lv_iload_n hx hb dL_act_114 rfl (lv_at hl 1 rfl) ?_
      refine lv_bipush (v := 6) hx hb dL_act_115 (by decide) ?_
      refine lv_icmp_ge (tgt := 130) hx hb dL_act_117 (by decide) (fun c_1 => ?_) (fun c_1 => absurd k0 c_1)
      refine lv_iload_n hx hb dL_act_130 rfl (lv_at hl 1 rfl) ?_
      refine lv_bipush (v := 20) hx hb dL_act_131 (by decide) ?_
      refine lv_icmp_ge (tgt := 190) hx hb dL_act_133 (by decide) (fun c_2 => ?_) (fun c_2 => absurd k1 c_2)
      refine lv_iload_n hx hb dL_act_190 rfl (lv_at hl 1 rfl) ?_
      refine lv_bipush (v := 23) hx hb dL_act_191 (by decide) ?_
      refine lv_icmp_ge (tgt := 206) hx hb dL_act_193 (by decide) (fun c_3 => ?_) (fun c_3 => absurd k2 c_3)
      refine lv_iload_n hx hb dL_act_206 rfl (lv_at hl 1 rfl) ?_
      refine lv_bipush (v := 25) hx hb dL_act_207 (by decide) ?_
      refine lv_icmp_ge (tgt := 247) hx hb dL_act_209 (by decide) (fun c_4 => absurd c_4 k3) (fun c_4 => ?_)
      refine lv_aload_n hx hb dL_act_212 rfl (lv_at hl 4 rfl) ?_
      refine lv_iconst (v := 2) hx hb dL_act_213 (by decide) ?_
      refine lv_iload_n hx hb dL_act_214 rfl (lv_at hl 0 rfl) ?_
      refine lv_if_eq (tgt := 230) hx hb dL_act_215 (by decide) (fun c_5 => ?_) (fun c_5 => absurd ho c_5)
      refine lv_iconst (v := 1) hx hb dL_act_230 (by decide) ?_
      refine lv_iload_n hx hb dL_act_231 rfl (lv_at hl 5 rfl) ?_
      refine lv_bipush (v := 6) hx hb dL_act_232 (by decide) ?_
      refine lv_ishr hx hb dL_act_234 ?_
      refine lv_bipush (v := 8) hx hb dL_act_235 (by decide) ?_
      refine rdS (As := [.int (lSh v 6), .int 8]) (rest := [.int 1, .int 2, .ref (aa 0)]) ⟨hx, hb, hml, hown, hts⟩ (c_L_low l D z q (lSh v 6) 8 (by decide)) (va_cwS 2 hts gL_act_L_low rfl rfl rfl hd_L_low ⟨Nat.le_of_ble_eq_true rfl, Nat.le_of_ble_eq_true rfl⟩) hE hS hA hP [] rfl rfl hl.1 rfl (Nat.le_of_ble_eq_true rfl) dL_act_237 ⟨(by show 0 + 0 ≤ 6; omega), (by show 0 + 0 ≤ 36; omega)⟩ ?_
      refine lv_iadd hx hb dL_act_240 ?_
      refine lv_iconst (v := 0) hx hb dL_act_241 (by decide) ?_
      refine lv_iconst (v := 0) hx hb dL_act_242 (by decide) ?_
      refine hwS (As := [.ref (aa 0), .int 2, .int ((1 : Int32) + (lLow (lSh v 6) 8)), .int 0, .int 0]) (rest := []) ⟨hx, hb, hml, hown, hts⟩ (c_L_does_2_0 l D z q (aa 0) (aa 1) (aa 6) (aa 15) (aa 17) (aa 22) (aa 25) (aa 27) dy (aa 16) ia (aa 7) (aa 8) (aa 9) (aa 10) (aa 11) (aa 12) (aa 13) (aa 14) ct ti sh pr wt wh (aa 18) (aa 19) (aa 20) (aa 21) lt ty zz po me ml zn ((1 : Int32) + (lLow (lSh v 6) 8)) 0 0 H.size hzz hz40 e0 hlt) (vx_cwSW 5 hts gL_act_L_does rfl rfl rfl hd_L_does ⟨Nat.le_of_ble_eq_true rfl, Nat.le_of_ble_eq_true rfl⟩) hE hS hA hP hD [0, 15, 16, 6, 7, 8, 9, 10, 11, 12, 13, 14, 17, 18, 19, 20, 21] rfl rfl rfl rfl hl.1 rfl (Nat.le_of_ble_eq_true rfl) dL_act_243 ⟨(by show 0 + 3 ≤ 6; omega), (by show 0 + 18 ≤ 36; omega)⟩ (fun H locs hP hD hS => ?_)
      have hP : va_P D vwCl [((aa 0), .inr (6, [.ref (aa 1), .ref (aa 6), .ref (aa 15), .ref (aa 17), .ref (aa 22), .ref (aa 25), .ref (aa 27), .int dy])), ((aa 1), .inr (0, [.ref (aa 2), .ref (aa 4)])), ((aa 2), .inr (1, [.ref (aa 3)])), ((aa 3), .inl (z 0, 26, .inl pl)), ((aa 4), .inr (1, [.ref (aa 5)])), ((aa 5), .inl (z 0, 30, .inl lo)), ((aa 6), .inr (2, [.ref (aa 7), .ref (aa 9), .ref (aa 11), .ref (aa 13), .int wt, .int wh])), ((aa 7), .inr (1, [.ref (aa 8)])), ((aa 8), .inl (z 0, 26, .inl ct)), ((aa 9), .inr (1, [.ref (aa 10)])), ((aa 10), .inl (z 0, 26, .inl ti)), ((aa 11), .inr (1, [.ref (aa 12)])), ((aa 12), .inl (z 0, 26, .inl sh)), ((aa 13), .inr (1, [.ref (aa 14)])), ((aa 14), .inl (z 0, 676, .inl pr)), ((aa 15), .inr (4, [.ref (aa 16), .ref (aa 6)])), ((aa 16), .inl (z 1, 26, .inl ia)), ((aa 17), .inr (3, [.ref (aa 18), .ref (aa 20), .int zz, .int po, .int me, .int ml])), ((aa 18), .inr (1, [.ref (aa 19)])), ((aa 19), .inl (z 0, 40, .inl lt)), ((aa 20), .inr (1, [.ref (aa 21)])), ((aa 21), .inl (z 0, 40, .inl ty)), ((aa 22), .inr (5, [.ref (aa 23), .int sn])), ((aa 23), .inr (1, [.ref (aa 24)])), ((aa 24), .inl (z 0, 100, .inl kp)), ((aa 25), .inr (1, [.ref (aa 26)])), ((aa 26), .inl (z 0, 5, .inl ek)), ((aa 27), .inr (1, [.ref (aa 28)])), ((aa 28), .inl (z 0, 8, .inl ef))] H := hP
      have hD : va_D A [((aa 0), .inr (6, [.ref (aa 1), .ref (aa 6), .ref (aa 15), .ref (aa 17), .ref (aa 22), .ref (aa 25), .ref (aa 27), .int dy])), ((aa 1), .inr (0, [.ref (aa 2), .ref (aa 4)])), ((aa 2), .inr (1, [.ref (aa 3)])), ((aa 3), .inl (z 0, 26, .inl pl)), ((aa 4), .inr (1, [.ref (aa 5)])), ((aa 5), .inl (z 0, 30, .inl lo)), ((aa 6), .inr (2, [.ref (aa 7), .ref (aa 9), .ref (aa 11), .ref (aa 13), .int wt, .int wh])), ((aa 7), .inr (1, [.ref (aa 8)])), ((aa 8), .inl (z 0, 26, .inl ct)), ((aa 9), .inr (1, [.ref (aa 10)])), ((aa 10), .inl (z 0, 26, .inl ti)), ((aa 11), .inr (1, [.ref (aa 12)])), ((aa 12), .inl (z 0, 26, .inl sh)), ((aa 13), .inr (1, [.ref (aa 14)])), ((aa 14), .inl (z 0, 676, .inl pr)), ((aa 15), .inr (4, [.ref (aa 16), .ref (aa 6)])), ((aa 16), .inl (z 1, 26, .inl ia)), ((aa 17), .inr (3, [.ref (aa 18), .ref (aa 20), .int zz, .int po, .int me, .int ml])), ((aa 18), .inr (1, [.ref (aa 19)])), ((aa 19), .inl (z 0, 40, .inl lt)), ((aa 20), .inr (1, [.ref (aa 21)])), ((aa 21), .inl (z 0, 40, .inl ty)), ((aa 22), .inr (5, [.ref (aa 23), .int sn])), ((aa 23), .inr (1, [.ref (aa 24)])), ((aa 24), .inl (z 0, 100, .inl kp)), ((aa 25), .inr (1, [.ref (aa 26)])), ((aa 26), .inl (z 0, 5, .inl ek)), ((aa 27), .inr (1, [.ref (aa 28)])), ((aa 28), .inl (z 0, 8, .inl ef))] := hD
      exact wr_i hx hb hr hlocks hP hD hS dL_act_246 rfl rfl (by omega) (by omega)
    · refine ⟨(pl, lo, ct, ti, sh, pr, ia, dT ia ti sh pr lt zn (dN ((1 : Int32) + (lLow (lSh v 6) 8)) zn), ty, kp, ek, ef, wt, wh, nI (zn + dN ((1 : Int32) + (lLow (lSh v 6) 8)) zn), po, me, ml, sn, dy), nI (dN ((1 : Int32) + (lLow (lSh v 6) 8)) zn), (CI_drill hI ((1 : Int32) + (lLow (lSh v 6) 8)) hzz hz40).1, fun h => absurd h (CI_drill hI ((1 : Int32) + (lLow (lSh v 6) 8)) hzz hz40).2, ?_⟩
      intro p l e s m below meth c D z q aa A H locs G hP hD hS ls hl
      obtain ⟨hx, hb, hr, hml, hts, hown, hlocks, hE, hA, hlt⟩ := G
      have hP : va_P D vwCl (coL z aa pl lo ct ti sh pr ia lt ty kp ek ef wt wh zz po me ml sn dy) H := hP
      have hD : va_D A (coL z aa pl lo ct ti sh pr ia lt ty kp ek ef wt wh zz po me ml sn dy) := hD
      refine lv_iload_n hx hb dL_act_114 rfl (lv_at hl 1 rfl) ?_
      refine lv_bipush (v := 6) hx hb dL_act_115 (by decide) ?_
      refine lv_icmp_ge (tgt := 130) hx hb dL_act_117 (by decide) (fun c_1 => ?_) (fun c_1 => absurd k0 c_1)
      refine lv_iload_n hx hb dL_act_130 rfl (lv_at hl 1 rfl) ?_
      refine lv_bipush (v := 20) hx hb dL_act_131 (by decide) ?_
      refine lv_icmp_ge (tgt := 190) hx hb dL_act_133 (by decide) (fun c_2 => ?_) (fun c_2 => absurd k1 c_2)
      refine lv_iload_n hx hb dL_act_190 rfl (lv_at hl 1 rfl) ?_
      refine lv_bipush (v := 23) hx hb dL_act_191 (by decide) ?_
      refine lv_icmp_ge (tgt := 206) hx hb dL_act_193 (by decide) (fun c_3 => ?_) (fun c_3 => absurd k2 c_3)
      refine lv_iload_n hx hb dL_act_206 rfl (lv_at hl 1 rfl) ?_
      refine lv_bipush (v := 25) hx hb dL_act_207 (by decide) ?_
      refine lv_icmp_ge (tgt := 247) hx hb dL_act_209 (by decide) (fun c_4 => absurd c_4 k3) (fun c_4 => ?_)
      refine lv_aload_n hx hb dL_act_212 rfl (lv_at hl 4 rfl) ?_
      refine lv_iconst (v := 2) hx hb dL_act_213 (by decide) ?_
      refine lv_iload_n hx hb dL_act_214 rfl (lv_at hl 0 rfl) ?_
      refine lv_if_eq (tgt := 230) hx hb dL_act_215 (by decide) (fun c_5 => ?_) (fun c_5 => absurd ho c_5)
      refine lv_iconst (v := 1) hx hb dL_act_230 (by decide) ?_
      refine lv_iload_n hx hb dL_act_231 rfl (lv_at hl 5 rfl) ?_
      refine lv_bipush (v := 6) hx hb dL_act_232 (by decide) ?_
      refine lv_ishr hx hb dL_act_234 ?_
      refine lv_bipush (v := 8) hx hb dL_act_235 (by decide) ?_
      refine rdS (As := [.int (lSh v 6), .int 8]) (rest := [.int 1, .int 2, .ref (aa 0)]) ⟨hx, hb, hml, hown, hts⟩ (c_L_low l D z q (lSh v 6) 8 (by decide)) (va_cwS 2 hts gL_act_L_low rfl rfl rfl hd_L_low ⟨Nat.le_of_ble_eq_true rfl, Nat.le_of_ble_eq_true rfl⟩) hE hS hA hP [] rfl rfl hl.1 rfl (Nat.le_of_ble_eq_true rfl) dL_act_237 ⟨(by show 0 + 0 ≤ 6; omega), (by show 0 + 0 ≤ 36; omega)⟩ ?_
      refine lv_iadd hx hb dL_act_240 ?_
      refine lv_iconst (v := 0) hx hb dL_act_241 (by decide) ?_
      refine lv_iconst (v := 0) hx hb dL_act_242 (by decide) ?_
      refine hwS (As := [.ref (aa 0), .int 2, .int ((1 : Int32) + (lLow (lSh v 6) 8)), .int 0, .int 0]) (rest := []) ⟨hx, hb, hml, hown, hts⟩ (c_L_does_2_1 l D z q (aa 0) (aa 1) (aa 6) (aa 15) (aa 17) (aa 22) (aa 25) (aa 27) dy (aa 16) ia (aa 7) (aa 8) (aa 9) (aa 10) (aa 11) (aa 12) (aa 13) (aa 14) ct ti sh pr wt wh (aa 18) (aa 19) (aa 20) (aa 21) lt ty zz po me ml zn ((1 : Int32) + (lLow (lSh v 6) 8)) 0 0 H.size hzz hz40 e0 hlt) (vx_cwSW 5 hts gL_act_L_does rfl rfl rfl hd_L_does ⟨Nat.le_of_ble_eq_true rfl, Nat.le_of_ble_eq_true rfl⟩) hE hS hA hP hD [0, 15, 16, 6, 7, 8, 9, 10, 11, 12, 13, 14, 17, 18, 19, 20, 21] rfl rfl rfl rfl hl.1 rfl (Nat.le_of_ble_eq_true rfl) dL_act_243 ⟨(by show 0 + 3 ≤ 6; omega), (by show 0 + 18 ≤ 36; omega)⟩ (fun H locs hP hD hS => ?_)
      have hP : va_P D vwCl [((aa 0), .inr (6, [.ref (aa 1), .ref (aa 6), .ref (aa 15), .ref (aa 17), .ref (aa 22), .ref (aa 25), .ref (aa 27), .int dy])), ((aa 1), .inr (0, [.ref (aa 2), .ref (aa 4)])), ((aa 2), .inr (1, [.ref (aa 3)])), ((aa 3), .inl (z 0, 26, .inl pl)), ((aa 4), .inr (1, [.ref (aa 5)])), ((aa 5), .inl (z 0, 30, .inl lo)), ((aa 6), .inr (2, [.ref (aa 7), .ref (aa 9), .ref (aa 11), .ref (aa 13), .int wt, .int wh])), ((aa 7), .inr (1, [.ref (aa 8)])), ((aa 8), .inl (z 0, 26, .inl ct)), ((aa 9), .inr (1, [.ref (aa 10)])), ((aa 10), .inl (z 0, 26, .inl ti)), ((aa 11), .inr (1, [.ref (aa 12)])), ((aa 12), .inl (z 0, 26, .inl sh)), ((aa 13), .inr (1, [.ref (aa 14)])), ((aa 14), .inl (z 0, 676, .inl pr)), ((aa 15), .inr (4, [.ref (aa 16), .ref (aa 6)])), ((aa 16), .inl (z 1, 26, .inl ia)), ((aa 17), .inr (3, [.ref (aa 18), .ref (aa 20), .int (nI (zn + dN ((1 : Int32) + (lLow (lSh v 6) 8)) zn)), .int po, .int me, .int ml])), ((aa 18), .inr (1, [.ref (aa 19)])), ((aa 19), .inl (z 0, 40, .inl (dT ia ti sh pr lt zn (dN ((1 : Int32) + (lLow (lSh v 6) 8)) zn)))), ((aa 20), .inr (1, [.ref (aa 21)])), ((aa 21), .inl (z 0, 40, .inl ty)), ((aa 22), .inr (5, [.ref (aa 23), .int sn])), ((aa 23), .inr (1, [.ref (aa 24)])), ((aa 24), .inl (z 0, 100, .inl kp)), ((aa 25), .inr (1, [.ref (aa 26)])), ((aa 26), .inl (z 0, 5, .inl ek)), ((aa 27), .inr (1, [.ref (aa 28)])), ((aa 28), .inl (z 0, 8, .inl ef))] H := hP
      have hD : va_D A [((aa 0), .inr (6, [.ref (aa 1), .ref (aa 6), .ref (aa 15), .ref (aa 17), .ref (aa 22), .ref (aa 25), .ref (aa 27), .int dy])), ((aa 1), .inr (0, [.ref (aa 2), .ref (aa 4)])), ((aa 2), .inr (1, [.ref (aa 3)])), ((aa 3), .inl (z 0, 26, .inl pl)), ((aa 4), .inr (1, [.ref (aa 5)])), ((aa 5), .inl (z 0, 30, .inl lo)), ((aa 6), .inr (2, [.ref (aa 7), .ref (aa 9), .ref (aa 11), .ref (aa 13), .int wt, .int wh])), ((aa 7), .inr (1, [.ref (aa 8)])), ((aa 8), .inl (z 0, 26, .inl ct)), ((aa 9), .inr (1, [.ref (aa 10)])), ((aa 10), .inl (z 0, 26, .inl ti)), ((aa 11), .inr (1, [.ref (aa 12)])), ((aa 12), .inl (z 0, 26, .inl sh)), ((aa 13), .inr (1, [.ref (aa 14)])), ((aa 14), .inl (z 0, 676, .inl pr)), ((aa 15), .inr (4, [.ref (aa 16), .ref (aa 6)])), ((aa 16), .inl (z 1, 26, .inl ia)), ((aa 17), .inr (3, [.ref (aa 18), .ref (aa 20), .int (nI (zn + dN ((1 : Int32) + (lLow (lSh v 6) 8)) zn)), .int po, .int me, .int ml])), ((aa 18), .inr (1, [.ref (aa 19)])), ((aa 19), .inl (z 0, 40, .inl (dT ia ti sh pr lt zn (dN ((1 : Int32) + (lLow (lSh v 6) 8)) zn)))), ((aa 20), .inr (1, [.ref (aa 21)])), ((aa 21), .inl (z 0, 40, .inl ty)), ((aa 22), .inr (5, [.ref (aa 23), .int sn])), ((aa 23), .inr (1, [.ref (aa 24)])), ((aa 24), .inl (z 0, 100, .inl kp)), ((aa 25), .inr (1, [.ref (aa 26)])), ((aa 26), .inl (z 0, 5, .inl ek)), ((aa 27), .inr (1, [.ref (aa 28)])), ((aa 28), .inl (z 0, 8, .inl ef))] := hD
      exact wr_i hx hb hr hlocks hP hD hS dL_act_246 rfl rfl (by omega) (by omega)
  · by_cases e0 : bW (lLow (lSh v 6) 45) 1 40 = 0
    · refine ⟨(pl, lo, ct, ti, sh, pr, ia, lt, ty, kp, ek, ef, wt, wh, zz, po, me, ml, sn, dy), -99999, CI_mono hI, fun _ => rfl, ?_⟩
      intro p l e s m below meth c D z q aa A H locs G hP hD hS ls hl
      obtain ⟨hx, hb, hr, hml, hts, hown, hlocks, hE, hA, hlt⟩ := G
      have hP : va_P D vwCl (coL z aa pl lo ct ti sh pr ia lt ty kp ek ef wt wh zz po me ml sn dy) H := hP
      have hD : va_D A (coL z aa pl lo ct ti sh pr ia lt ty kp ek ef wt wh zz po me ml sn dy) := hD
      refine lv_iload_n hx hb dL_act_114 rfl (lv_at hl 1 rfl) ?_
      refine lv_bipush (v := 6) hx hb dL_act_115 (by decide) ?_
      refine lv_icmp_ge (tgt := 130) hx hb dL_act_117 (by decide) (fun c_1 => ?_) (fun c_1 => absurd k0 c_1)
      refine lv_iload_n hx hb dL_act_130 rfl (lv_at hl 1 rfl) ?_
      refine lv_bipush (v := 20) hx hb dL_act_131 (by decide) ?_
      refine lv_icmp_ge (tgt := 190) hx hb dL_act_133 (by decide) (fun c_2 => ?_) (fun c_2 => absurd k1 c_2)
      refine lv_iload_n hx hb dL_act_190 rfl (lv_at hl 1 rfl) ?_
      refine lv_bipush (v := 23) hx hb dL_act_191 (by decide) ?_
      refine lv_icmp_ge (tgt := 206) hx hb dL_act_193 (by decide) (fun c_3 => ?_) (fun c_3 => absurd k2 c_3)
      refine lv_iload_n hx hb dL_act_206 rfl (lv_at hl 1 rfl) ?_
      refine lv_bipush (v := 25) hx hb dL_act_207 (by decide) ?_
      refine lv_icmp_ge (tgt := 247) hx hb dL_act_209 (by decide) (fun c_4 => absurd c_4 k3) (fun c_4 => ?_)
      refine lv_aload_n hx hb dL_act_212 rfl (lv_at hl 4 rfl) ?_
      refine lv_iconst (v := 2) hx hb dL_act_213 (by decide) ?_
      refine lv_iload_n hx hb dL_act_214 rfl (lv_at hl 0 rfl) ?_
      refine lv_if_eq (tgt := 230) hx hb dL_act_215 (by decide) (fun c_5 => absurd c_5 ho) (fun c_5 => ?_)
      refine lv_iload_n hx hb dL_act_218 rfl (lv_at hl 5 rfl) ?_
      refine lv_bipush (v := 6) hx hb dL_act_219 (by decide) ?_
      refine lv_ishr hx hb dL_act_221 ?_
      refine lv_bipush (v := 45) hx hb dL_act_222 (by decide) ?_
      refine rdS (As := [.int (lSh v 6), .int 45]) (rest := [.int 2, .ref (aa 0)]) ⟨hx, hb, hml, hown, hts⟩ (c_L_low l D z q (lSh v 6) 45 (by decide)) (va_cwS 2 hts gL_act_L_low rfl rfl rfl hd_L_low ⟨Nat.le_of_ble_eq_true rfl, Nat.le_of_ble_eq_true rfl⟩) hE hS hA hP [] rfl rfl hl.1 rfl (Nat.le_of_ble_eq_true rfl) dL_act_224 ⟨(by show 0 + 0 ≤ 6; omega), (by show 0 + 0 ≤ 36; omega)⟩ ?_
      refine lv_goto (tgt := 241) hx hb dL_act_227 (by decide) ?_
      refine lv_iconst (v := 0) hx hb dL_act_241 (by decide) ?_
      refine lv_iconst (v := 0) hx hb dL_act_242 (by decide) ?_
      refine hwS (As := [.ref (aa 0), .int 2, .int (lLow (lSh v 6) 45), .int 0, .int 0]) (rest := []) ⟨hx, hb, hml, hown, hts⟩ (c_L_does_2_0 l D z q (aa 0) (aa 1) (aa 6) (aa 15) (aa 17) (aa 22) (aa 25) (aa 27) dy (aa 16) ia (aa 7) (aa 8) (aa 9) (aa 10) (aa 11) (aa 12) (aa 13) (aa 14) ct ti sh pr wt wh (aa 18) (aa 19) (aa 20) (aa 21) lt ty zz po me ml zn (lLow (lSh v 6) 45) 0 0 H.size hzz hz40 e0 hlt) (vx_cwSW 5 hts gL_act_L_does rfl rfl rfl hd_L_does ⟨Nat.le_of_ble_eq_true rfl, Nat.le_of_ble_eq_true rfl⟩) hE hS hA hP hD [0, 15, 16, 6, 7, 8, 9, 10, 11, 12, 13, 14, 17, 18, 19, 20, 21] rfl rfl rfl rfl hl.1 rfl (Nat.le_of_ble_eq_true rfl) dL_act_243 ⟨(by show 0 + 3 ≤ 6; omega), (by show 0 + 18 ≤ 36; omega)⟩ (fun H locs hP hD hS => ?_)
      have hP : va_P D vwCl [((aa 0), .inr (6, [.ref (aa 1), .ref (aa 6), .ref (aa 15), .ref (aa 17), .ref (aa 22), .ref (aa 25), .ref (aa 27), .int dy])), ((aa 1), .inr (0, [.ref (aa 2), .ref (aa 4)])), ((aa 2), .inr (1, [.ref (aa 3)])), ((aa 3), .inl (z 0, 26, .inl pl)), ((aa 4), .inr (1, [.ref (aa 5)])), ((aa 5), .inl (z 0, 30, .inl lo)), ((aa 6), .inr (2, [.ref (aa 7), .ref (aa 9), .ref (aa 11), .ref (aa 13), .int wt, .int wh])), ((aa 7), .inr (1, [.ref (aa 8)])), ((aa 8), .inl (z 0, 26, .inl ct)), ((aa 9), .inr (1, [.ref (aa 10)])), ((aa 10), .inl (z 0, 26, .inl ti)), ((aa 11), .inr (1, [.ref (aa 12)])), ((aa 12), .inl (z 0, 26, .inl sh)), ((aa 13), .inr (1, [.ref (aa 14)])), ((aa 14), .inl (z 0, 676, .inl pr)), ((aa 15), .inr (4, [.ref (aa 16), .ref (aa 6)])), ((aa 16), .inl (z 1, 26, .inl ia)), ((aa 17), .inr (3, [.ref (aa 18), .ref (aa 20), .int zz, .int po, .int me, .int ml])), ((aa 18), .inr (1, [.ref (aa 19)])), ((aa 19), .inl (z 0, 40, .inl lt)), ((aa 20), .inr (1, [.ref (aa 21)])), ((aa 21), .inl (z 0, 40, .inl ty)), ((aa 22), .inr (5, [.ref (aa 23), .int sn])), ((aa 23), .inr (1, [.ref (aa 24)])), ((aa 24), .inl (z 0, 100, .inl kp)), ((aa 25), .inr (1, [.ref (aa 26)])), ((aa 26), .inl (z 0, 5, .inl ek)), ((aa 27), .inr (1, [.ref (aa 28)])), ((aa 28), .inl (z 0, 8, .inl ef))] H := hP
      have hD : va_D A [((aa 0), .inr (6, [.ref (aa 1), .ref (aa 6), .ref (aa 15), .ref (aa 17), .ref (aa 22), .ref (aa 25), .ref (aa 27), .int dy])), ((aa 1), .inr (0, [.ref (aa 2), .ref (aa 4)])), ((aa 2), .inr (1, [.ref (aa 3)])), ((aa 3), .inl (z 0, 26, .inl pl)), ((aa 4), .inr (1, [.ref (aa 5)])), ((aa 5), .inl (z 0, 30, .inl lo)), ((aa 6), .inr (2, [.ref (aa 7), .ref (aa 9), .ref (aa 11), .ref (aa 13), .int wt, .int wh])), ((aa 7), .inr (1, [.ref (aa 8)])), ((aa 8), .inl (z 0, 26, .inl ct)), ((aa 9), .inr (1, [.ref (aa 10)])), ((aa 10), .inl (z 0, 26, .inl ti)), ((aa 11), .inr (1, [.ref (aa 12)])), ((aa 12), .inl (z 0, 26, .inl sh)), ((aa 13), .inr (1, [.ref (aa 14)])), ((aa 14), .inl (z 0, 676, .inl pr)), ((aa 15), .inr (4, [.ref (aa 16), .ref (aa 6)])), ((aa 16), .inl (z 1, 26, .inl ia)), ((aa 17), .inr (3, [.ref (aa 18), .ref (aa 20), .int zz, .int po, .int me, .int ml])), ((aa 18), .inr (1, [.ref (aa 19)])), ((aa 19), .inl (z 0, 40, .inl lt)), ((aa 20), .inr (1, [.ref (aa 21)])), ((aa 21), .inl (z 0, 40, .inl ty)), ((aa 22), .inr (5, [.ref (aa 23), .int sn])), ((aa 23), .inr (1, [.ref (aa 24)])), ((aa 24), .inl (z 0, 100, .inl kp)), ((aa 25), .inr (1, [.ref (aa 26)])), ((aa 26), .inl (z 0, 5, .inl ek)), ((aa 27), .inr (1, [.ref (aa 28)])), ((aa 28), .inl (z 0, 8, .inl ef))] := hD
      exact wr_i hx hb hr hlocks hP hD hS dL_act_246 rfl rfl (by omega) (by omega)
    · refine ⟨(pl, lo, ct, ti, sh, pr, ia, dT ia ti sh pr lt zn (dN (lLow (lSh v 6) 45) zn), ty, kp, ek, ef, wt, wh, nI (zn + dN (lLow (lSh v 6) 45) zn), po, me, ml, sn, dy), nI (dN (lLow (lSh v 6) 45) zn), (CI_drill hI (lLow (lSh v 6) 45) hzz hz40).1, fun h => absurd h (CI_drill hI (lLow (lSh v 6) 45) hzz hz40).2, ?_⟩
      intro p l e s m below meth c D z q aa A H locs G hP hD hS ls hl
      obtain ⟨hx, hb, hr, hml, hts, hown, hlocks, hE, hA, hlt⟩ := G
      have hP : va_P D vwCl (coL z aa pl lo ct ti sh pr ia lt ty kp ek ef wt wh zz po me ml sn dy) H := hP
      have hD : va_D A (coL z aa pl lo ct ti sh pr ia lt ty kp ek ef wt wh zz po me ml sn dy) := hD
      refine lv_iload_n hx hb dL_act_114 rfl (lv_at hl 1 rfl) ?_
      refine lv_bipush (v := 6) hx hb dL_act_115 (by decide) ?_
      refine lv_icmp_ge (tgt := 130) hx hb dL_act_117 (by decide) (fun c_1 => ?_) (fun c_1 => absurd k0 c_1)
      refine lv_iload_n hx hb dL_act_130 rfl (lv_at hl 1 rfl) ?_
      refine lv_bipush (v := 20) hx hb dL_act_131 (by decide) ?_
      refine lv_icmp_ge (tgt := 190) hx hb dL_act_133 (by decide) (fun c_2 => ?_) (fun c_2 => absurd k1 c_2)
      refine lv_iload_n hx hb dL_act_190 rfl (lv_at hl 1 rfl) ?_
      refine lv_bipush (v := 23) hx hb dL_act_191 (by decide) ?_
      refine lv_icmp_ge (tgt := 206) hx hb dL_act_193 (by decide) (fun c_3 => ?_) (fun c_3 => absurd k2 c_3)
      refine lv_iload_n hx hb dL_act_206 rfl (lv_at hl 1 rfl) ?_
      refine lv_bipush (v := 25) hx hb dL_act_207 (by decide) ?_
      refine lv_icmp_ge (tgt := 247) hx hb dL_act_209 (by decide) (fun c_4 => absurd c_4 k3) (fun c_4 => ?_)
      refine lv_aload_n hx hb dL_act_212 rfl (lv_at hl 4 rfl) ?_
      refine lv_iconst (v := 2) hx hb dL_act_213 (by decide) ?_
      refine lv_iload_n hx hb dL_act_214 rfl (lv_at hl 0 rfl) ?_
      refine lv_if_eq (tgt := 230) hx hb dL_act_215 (by decide) (fun c_5 => absurd c_5 ho) (fun c_5 => ?_)
      refine lv_iload_n hx hb dL_act_218 rfl (lv_at hl 5 rfl) ?_
      refine lv_bipush (v := 6) hx hb dL_act_219 (by decide) ?_
      refine lv_ishr hx hb dL_act_221 ?_
      refine lv_bipush (v := 45) hx hb dL_act_222 (by decide) ?_
      refine rdS (As := [.int (lSh v 6), .int 45]) (rest := [.int 2, .ref (aa 0)]) ⟨hx, hb, hml, hown, hts⟩ (c_L_low l D z q (lSh v 6) 45 (by decide)) (va_cwS 2 hts gL_act_L_low rfl rfl rfl hd_L_low ⟨Nat.le_of_ble_eq_true rfl, Nat.le_of_ble_eq_true rfl⟩) hE hS hA hP [] rfl rfl hl.1 rfl (Nat.le_of_ble_eq_true rfl) dL_act_224 ⟨(by show 0 + 0 ≤ 6; omega), (by show 0 + 0 ≤ 36; omega)⟩ ?_
      refine lv_goto (tgt := 241) hx hb dL_act_227 (by decide) ?_
      refine lv_iconst (v := 0) hx hb dL_act_241 (by decide) ?_
      refine lv_iconst (v := 0) hx hb dL_act_242 (by decide) ?_
      refine hwS (As := [.ref (aa 0), .int 2, .int (lLow (lSh v 6) 45), .int 0, .int 0]) (rest := []) ⟨hx, hb, hml, hown, hts⟩ (c_L_does_2_1 l D z q (aa 0) (aa 1) (aa 6) (aa 15) (aa 17) (aa 22) (aa 25) (aa 27) dy (aa 16) ia (aa 7) (aa 8) (aa 9) (aa 10) (aa 11) (aa 12) (aa 13) (aa 14) ct ti sh pr wt wh (aa 18) (aa 19) (aa 20) (aa 21) lt ty zz po me ml zn (lLow (lSh v 6) 45) 0 0 H.size hzz hz40 e0 hlt) (vx_cwSW 5 hts gL_act_L_does rfl rfl rfl hd_L_does ⟨Nat.le_of_ble_eq_true rfl, Nat.le_of_ble_eq_true rfl⟩) hE hS hA hP hD [0, 15, 16, 6, 7, 8, 9, 10, 11, 12, 13, 14, 17, 18, 19, 20, 21] rfl rfl rfl rfl hl.1 rfl (Nat.le_of_ble_eq_true rfl) dL_act_243 ⟨(by show 0 + 3 ≤ 6; omega), (by show 0 + 18 ≤ 36; omega)⟩ (fun H locs hP hD hS => ?_)
      have hP : va_P D vwCl [((aa 0), .inr (6, [.ref (aa 1), .ref (aa 6), .ref (aa 15), .ref (aa 17), .ref (aa 22), .ref (aa 25), .ref (aa 27), .int dy])), ((aa 1), .inr (0, [.ref (aa 2), .ref (aa 4)])), ((aa 2), .inr (1, [.ref (aa 3)])), ((aa 3), .inl (z 0, 26, .inl pl)), ((aa 4), .inr (1, [.ref (aa 5)])), ((aa 5), .inl (z 0, 30, .inl lo)), ((aa 6), .inr (2, [.ref (aa 7), .ref (aa 9), .ref (aa 11), .ref (aa 13), .int wt, .int wh])), ((aa 7), .inr (1, [.ref (aa 8)])), ((aa 8), .inl (z 0, 26, .inl ct)), ((aa 9), .inr (1, [.ref (aa 10)])), ((aa 10), .inl (z 0, 26, .inl ti)), ((aa 11), .inr (1, [.ref (aa 12)])), ((aa 12), .inl (z 0, 26, .inl sh)), ((aa 13), .inr (1, [.ref (aa 14)])), ((aa 14), .inl (z 0, 676, .inl pr)), ((aa 15), .inr (4, [.ref (aa 16), .ref (aa 6)])), ((aa 16), .inl (z 1, 26, .inl ia)), ((aa 17), .inr (3, [.ref (aa 18), .ref (aa 20), .int (nI (zn + dN (lLow (lSh v 6) 45) zn)), .int po, .int me, .int ml])), ((aa 18), .inr (1, [.ref (aa 19)])), ((aa 19), .inl (z 0, 40, .inl (dT ia ti sh pr lt zn (dN (lLow (lSh v 6) 45) zn)))), ((aa 20), .inr (1, [.ref (aa 21)])), ((aa 21), .inl (z 0, 40, .inl ty)), ((aa 22), .inr (5, [.ref (aa 23), .int sn])), ((aa 23), .inr (1, [.ref (aa 24)])), ((aa 24), .inl (z 0, 100, .inl kp)), ((aa 25), .inr (1, [.ref (aa 26)])), ((aa 26), .inl (z 0, 5, .inl ek)), ((aa 27), .inr (1, [.ref (aa 28)])), ((aa 28), .inl (z 0, 8, .inl ef))] H := hP
      have hD : va_D A [((aa 0), .inr (6, [.ref (aa 1), .ref (aa 6), .ref (aa 15), .ref (aa 17), .ref (aa 22), .ref (aa 25), .ref (aa 27), .int dy])), ((aa 1), .inr (0, [.ref (aa 2), .ref (aa 4)])), ((aa 2), .inr (1, [.ref (aa 3)])), ((aa 3), .inl (z 0, 26, .inl pl)), ((aa 4), .inr (1, [.ref (aa 5)])), ((aa 5), .inl (z 0, 30, .inl lo)), ((aa 6), .inr (2, [.ref (aa 7), .ref (aa 9), .ref (aa 11), .ref (aa 13), .int wt, .int wh])), ((aa 7), .inr (1, [.ref (aa 8)])), ((aa 8), .inl (z 0, 26, .inl ct)), ((aa 9), .inr (1, [.ref (aa 10)])), ((aa 10), .inl (z 0, 26, .inl ti)), ((aa 11), .inr (1, [.ref (aa 12)])), ((aa 12), .inl (z 0, 26, .inl sh)), ((aa 13), .inr (1, [.ref (aa 14)])), ((aa 14), .inl (z 0, 676, .inl pr)), ((aa 15), .inr (4, [.ref (aa 16), .ref (aa 6)])), ((aa 16), .inl (z 1, 26, .inl ia)), ((aa 17), .inr (3, [.ref (aa 18), .ref (aa 20), .int (nI (zn + dN (lLow (lSh v 6) 45) zn)), .int po, .int me, .int ml])), ((aa 18), .inr (1, [.ref (aa 19)])), ((aa 19), .inl (z 0, 40, .inl (dT ia ti sh pr lt zn (dN (lLow (lSh v 6) 45) zn)))), ((aa 20), .inr (1, [.ref (aa 21)])), ((aa 21), .inl (z 0, 40, .inl ty)), ((aa 22), .inr (5, [.ref (aa 23), .int sn])), ((aa 23), .inr (1, [.ref (aa 24)])), ((aa 24), .inl (z 0, 100, .inl kp)), ((aa 25), .inr (1, [.ref (aa 26)])), ((aa 26), .inl (z 0, 5, .inl ek)), ((aa 27), .inr (1, [.ref (aa 28)])), ((aa 28), .inl (z 0, 8, .inl ef))] := hD
      exact wr_i hx hb hr hlocks hP hD hS dL_act_246 rfl rfl (by omega) (by omega)
set_option maxHeartbeats 8000000 in
set_option maxRecDepth 100000 in
theorem act_t4 {N : Nat} {pl lo ct ti sh pr ia lt ty kp ek ef : Fn} {wt wh zz po me ml sn dy : Int32} (hI : CI N pl lo ct ti sh pr ia lt ty kp ek ef wt wh zz po me ml sn dy) (hN : N < 1000) (v odd how letter millis : Int32) (k0 : 6 ≤ how) (k1 : 20 ≤ how) (k2 : 23 ≤ how) (k3 : 25 ≤ how) (k4 : ¬ 30 ≤ how) : ∃ (S9 : Co) (a : Int32), CIN (N + 1) S9 ∧ (a = -99999 → S9 = (pl, lo, ct, ti, sh, pr, ia, lt, ty, kp, ek, ef, wt, wh, zz, po, me, ml, sn, dy)) ∧ ACTX (pl, lo, ct, ti, sh, pr, ia, lt, ty, kp, ek, ef, wt, wh, zz, po, me, ml, sn, dy) S9 a v odd how letter millis 114 := by
  have ⟨zn, hzz, hz40, hlt9, ps, hpo, hps, hty9⟩ := hI.1.2.2.2.1
  by_cases e0 : ¬ pFull sn = 0
  · refine ⟨(pl, lo, ct, ti, sh, pr, ia, lt, ty, kp, ek, ef, wt, wh, zz, po, me, ml, sn, dy), -99999, CI_mono hI, fun _ => rfl, ?_⟩
    intro p l e s m below meth c D z q aa A H locs G hP hD hS ls hl
    obtain ⟨hx, hb, hr, hml, hts, hown, hlocks, hE, hA, hlt⟩ := G
    have hP : va_P D vwCl (coL z aa pl lo ct ti sh pr ia lt ty kp ek ef wt wh zz po me ml sn dy) H := hP
    have hD : va_D A (coL z aa pl lo ct ti sh pr ia lt ty kp ek ef wt wh zz po me ml sn dy) := hD
    refine lv_iload_n hx hb dL_act_114 rfl (lv_at hl 1 rfl) ?_
    refine lv_bipush (v := 6) hx hb dL_act_115 (by decide) ?_
    refine lv_icmp_ge (tgt := 130) hx hb dL_act_117 (by decide) (fun c_1 => ?_) (fun c_1 => absurd k0 c_1)
    refine lv_iload_n hx hb dL_act_130 rfl (lv_at hl 1 rfl) ?_
    refine lv_bipush (v := 20) hx hb dL_act_131 (by decide) ?_
    refine lv_icmp_ge (tgt := 190) hx hb dL_act_133 (by decide) (fun c_2 => ?_) (fun c_2 => absurd k1 c_2)
    refine lv_iload_n hx hb dL_act_190 rfl (lv_at hl 1 rfl) ?_
    refine lv_bipush (v := 23) hx hb dL_act_191 (by decide) ?_
    refine lv_icmp_ge (tgt := 206) hx hb dL_act_193 (by decide) (fun c_3 => ?_) (fun c_3 => absurd k2 c_3)
    refine lv_iload_n hx hb dL_act_206 rfl (lv_at hl 1 rfl) ?_
    refine lv_bipush (v := 25) hx hb dL_act_207 (by decide) ?_
    refine lv_icmp_ge (tgt := 247) hx hb dL_act_209 (by decide) (fun c_4 => ?_) (fun c_4 => absurd k3 c_4)
    refine lv_iload_n hx hb dL_act_247 rfl (lv_at hl 1 rfl) ?_
    refine lv_bipush (v := 30) hx hb dL_act_248 (by decide) ?_
    refine lv_icmp_ge (tgt := 262) hx hb dL_act_250 (by decide) (fun c_5 => absurd c_5 k4) (fun c_5 => ?_)
    refine lv_aload_n hx hb dL_act_253 rfl (lv_at hl 4 rfl) ?_
    refine lv_iconst (v := 5) hx hb dL_act_254 (by decide) ?_
    refine lv_iconst (v := 0) hx hb dL_act_255 (by decide) ?_
    refine lv_iconst (v := 0) hx hb dL_act_256 (by decide) ?_
    refine lv_iconst (v := 0) hx hb dL_act_257 (by decide) ?_
    refine hwS (As := [.ref (aa 0), .int 5, .int 0, .int 0, .int 0]) (rest := []) ⟨hx, hb, hml, hown, hts⟩ (c_L_does_5_0 l D z q (aa 0) (aa 1) (aa 6) (aa 15) (aa 17) (aa 22) (aa 25) (aa 27) dy (aa 16) ia (aa 7) (aa 8) (aa 9) (aa 10) (aa 11) (aa 12) (aa 13) (aa 14) ct ti sh pr wt wh (aa 18) (aa 19) (aa 20) (aa 21) lt ty zz po me ml (aa 23) (aa 24) kp sn ps 0 0 0 H.size hpo (by omega) e0 hlt) (vx_cwSW 5 hts gL_act_L_does rfl rfl rfl hd_L_does ⟨Nat.le_of_ble_eq_true rfl, Nat.le_of_ble_eq_true rfl⟩) hE hS hA hP hD [0, 15, 16, 6, 7, 8, 9, 10, 11, 12, 13, 14, 17, 18, 19, 20, 21, 22, 23, 24] rfl rfl rfl rfl hl.1 rfl (Nat.le_of_ble_eq_true rfl) dL_act_258 ⟨(by show 0 + 3 ≤ 6; omega), (by show 0 + 18 ≤ 36; omega)⟩ (fun H locs hP hD hS => ?_)
    have hP : va_P D vwCl [((aa 0), .inr (6, [.ref (aa 1), .ref (aa 6), .ref (aa 15), .ref (aa 17), .ref (aa 22), .ref (aa 25), .ref (aa 27), .int dy])), ((aa 1), .inr (0, [.ref (aa 2), .ref (aa 4)])), ((aa 2), .inr (1, [.ref (aa 3)])), ((aa 3), .inl (z 0, 26, .inl pl)), ((aa 4), .inr (1, [.ref (aa 5)])), ((aa 5), .inl (z 0, 30, .inl lo)), ((aa 6), .inr (2, [.ref (aa 7), .ref (aa 9), .ref (aa 11), .ref (aa 13), .int wt, .int wh])), ((aa 7), .inr (1, [.ref (aa 8)])), ((aa 8), .inl (z 0, 26, .inl ct)), ((aa 9), .inr (1, [.ref (aa 10)])), ((aa 10), .inl (z 0, 26, .inl ti)), ((aa 11), .inr (1, [.ref (aa 12)])), ((aa 12), .inl (z 0, 26, .inl sh)), ((aa 13), .inr (1, [.ref (aa 14)])), ((aa 14), .inl (z 0, 676, .inl pr)), ((aa 15), .inr (4, [.ref (aa 16), .ref (aa 6)])), ((aa 16), .inl (z 1, 26, .inl ia)), ((aa 17), .inr (3, [.ref (aa 18), .ref (aa 20), .int zz, .int po, .int me, .int ml])), ((aa 18), .inr (1, [.ref (aa 19)])), ((aa 19), .inl (z 0, 40, .inl lt)), ((aa 20), .inr (1, [.ref (aa 21)])), ((aa 21), .inl (z 0, 40, .inl ty)), ((aa 22), .inr (5, [.ref (aa 23), .int sn])), ((aa 23), .inr (1, [.ref (aa 24)])), ((aa 24), .inl (z 0, 100, .inl kp)), ((aa 25), .inr (1, [.ref (aa 26)])), ((aa 26), .inl (z 0, 5, .inl ek)), ((aa 27), .inr (1, [.ref (aa 28)])), ((aa 28), .inl (z 0, 8, .inl ef))] H := hP
    have hD : va_D A [((aa 0), .inr (6, [.ref (aa 1), .ref (aa 6), .ref (aa 15), .ref (aa 17), .ref (aa 22), .ref (aa 25), .ref (aa 27), .int dy])), ((aa 1), .inr (0, [.ref (aa 2), .ref (aa 4)])), ((aa 2), .inr (1, [.ref (aa 3)])), ((aa 3), .inl (z 0, 26, .inl pl)), ((aa 4), .inr (1, [.ref (aa 5)])), ((aa 5), .inl (z 0, 30, .inl lo)), ((aa 6), .inr (2, [.ref (aa 7), .ref (aa 9), .ref (aa 11), .ref (aa 13), .int wt, .int wh])), ((aa 7), .inr (1, [.ref (aa 8)])), ((aa 8), .inl (z 0, 26, .inl ct)), ((aa 9), .inr (1, [.ref (aa 10)])), ((aa 10), .inl (z 0, 26, .inl ti)), ((aa 11), .inr (1, [.ref (aa 12)])), ((aa 12), .inl (z 0, 26, .inl sh)), ((aa 13), .inr (1, [.ref (aa 14)])), ((aa 14), .inl (z 0, 676, .inl pr)), ((aa 15), .inr (4, [.ref (aa 16), .ref (aa 6)])), ((aa 16), .inl (z 1, 26, .inl ia)), ((aa 17), .inr (3, [.ref (aa 18), .ref (aa 20), .int zz, .int po, .int me, .int ml])), ((aa 18), .inr (1, [.ref (aa 19)])), ((aa 19), .inl (z 0, 40, .inl lt)), ((aa 20), .inr (1, [.ref (aa 21)])), ((aa 21), .inl (z 0, 40, .inl ty)), ((aa 22), .inr (5, [.ref (aa 23), .int sn])), ((aa 23), .inr (1, [.ref (aa 24)])), ((aa 24), .inl (z 0, 100, .inl kp)), ((aa 25), .inr (1, [.ref (aa 26)])), ((aa 26), .inl (z 0, 5, .inl ek)), ((aa 27), .inr (1, [.ref (aa 28)])), ((aa 28), .inl (z 0, 8, .inl ef))] := hD
    exact wr_i hx hb hr hlocks hP hD hS dL_act_261 rfl rfl (by omega) (by omega)
  · refine ⟨(pl, lo, lM1 ia ct sh ct 0, lM1 ia ct sh ti 400, lM1 ia ct sh sh 0, pr, lRevI ia ct ti sh wt wh, lt, ty, cSet 100 kp sn (tSpeed lt ty ps ml), ek, ef, wt, wh, 0, 0, 0, 0, sn + 1, dy), lRevV ia ct ti sh wt wh, (CI_end hI (tSpeed lt ty ps ml) e0).1, fun h => absurd h (CI_end hI (tSpeed lt ty ps ml) e0).2, ?_⟩
    intro p l e s m below meth c D z q aa A H locs G hP hD hS ls hl
    obtain ⟨hx, hb, hr, hml, hts, hown, hlocks, hE, hA, hlt⟩ := G
    have hP : va_P D vwCl (coL z aa pl lo ct ti sh pr ia lt ty kp ek ef wt wh zz po me ml sn dy) H := hP
    have hD : va_D A (coL z aa pl lo ct ti sh pr ia lt ty kp ek ef wt wh zz po me ml sn dy) := hD
    refine lv_iload_n hx hb dL_act_114 rfl (lv_at hl 1 rfl) ?_
    refine lv_bipush (v := 6) hx hb dL_act_115 (by decide) ?_
    refine lv_icmp_ge (tgt := 130) hx hb dL_act_117 (by decide) (fun c_1 => ?_) (fun c_1 => absurd k0 c_1)
    refine lv_iload_n hx hb dL_act_130 rfl (lv_at hl 1 rfl) ?_
    refine lv_bipush (v := 20) hx hb dL_act_131 (by decide) ?_
    refine lv_icmp_ge (tgt := 190) hx hb dL_act_133 (by decide) (fun c_2 => ?_) (fun c_2 => absurd k1 c_2)
    refine lv_iload_n hx hb dL_act_190 rfl (lv_at hl 1 rfl) ?_
    refine lv_bipush (v := 23) hx hb dL_act_191 (by decide) ?_
    refine lv_icmp_ge (tgt := 206) hx hb dL_act_193 (by decide) (fun c_3 => ?_) (fun c_3 => absurd k2 c_3)
    refine lv_iload_n hx hb dL_act_206 rfl (lv_at hl 1 rfl) ?_
    refine lv_bipush (v := 25) hx hb dL_act_207 (by decide) ?_
    refine lv_icmp_ge (tgt := 247) hx hb dL_act_209 (by decide) (fun c_4 => ?_) (fun c_4 => absurd k3 c_4)
    refine lv_iload_n hx hb dL_act_247 rfl (lv_at hl 1 rfl) ?_
    refine lv_bipush (v := 30) hx hb dL_act_248 (by decide) ?_
    refine lv_icmp_ge (tgt := 262) hx hb dL_act_250 (by decide) (fun c_5 => absurd c_5 k4) (fun c_5 => ?_)
    refine lv_aload_n hx hb dL_act_253 rfl (lv_at hl 4 rfl) ?_
    refine lv_iconst (v := 5) hx hb dL_act_254 (by decide) ?_
    refine lv_iconst (v := 0) hx hb dL_act_255 (by decide) ?_
    refine lv_iconst (v := 0) hx hb dL_act_256 (by decide) ?_
    refine lv_iconst (v := 0) hx hb dL_act_257 (by decide) ?_
    refine hwS (As := [.ref (aa 0), .int 5, .int 0, .int 0, .int 0]) (rest := []) ⟨hx, hb, hml, hown, hts⟩ (c_L_does_5_1 l D z q (aa 0) (aa 1) (aa 6) (aa 15) (aa 17) (aa 22) (aa 25) (aa 27) dy (aa 16) ia (aa 7) (aa 8) (aa 9) (aa 10) (aa 11) (aa 12) (aa 13) (aa 14) ct ti sh pr wt wh (aa 18) (aa 19) (aa 20) (aa 21) lt ty zz po me ml (aa 23) (aa 24) kp sn ps 0 0 0 H.size hpo (by omega) e0 hlt) (vx_cwSW 5 hts gL_act_L_does rfl rfl rfl hd_L_does ⟨Nat.le_of_ble_eq_true rfl, Nat.le_of_ble_eq_true rfl⟩) hE hS hA hP hD [0, 15, 16, 6, 7, 8, 9, 10, 11, 12, 13, 14, 17, 18, 19, 20, 21, 22, 23, 24] rfl rfl rfl rfl hl.1 rfl (Nat.le_of_ble_eq_true rfl) dL_act_258 ⟨(by show 0 + 3 ≤ 6; omega), (by show 0 + 18 ≤ 36; omega)⟩ (fun H locs hP hD hS => ?_)
    have hP : va_P D vwCl [((aa 0), .inr (6, [.ref (aa 1), .ref (aa 6), .ref (aa 15), .ref (aa 17), .ref (aa 22), .ref (aa 25), .ref (aa 27), .int dy])), ((aa 1), .inr (0, [.ref (aa 2), .ref (aa 4)])), ((aa 2), .inr (1, [.ref (aa 3)])), ((aa 3), .inl (z 0, 26, .inl pl)), ((aa 4), .inr (1, [.ref (aa 5)])), ((aa 5), .inl (z 0, 30, .inl lo)), ((aa 6), .inr (2, [.ref (aa 7), .ref (aa 9), .ref (aa 11), .ref (aa 13), .int wt, .int wh])), ((aa 7), .inr (1, [.ref (aa 8)])), ((aa 8), .inl (z 0, 26, .inl (lM1 ia ct sh ct 0))), ((aa 9), .inr (1, [.ref (aa 10)])), ((aa 10), .inl (z 0, 26, .inl (lM1 ia ct sh ti 400))), ((aa 11), .inr (1, [.ref (aa 12)])), ((aa 12), .inl (z 0, 26, .inl (lM1 ia ct sh sh 0))), ((aa 13), .inr (1, [.ref (aa 14)])), ((aa 14), .inl (z 0, 676, .inl pr)), ((aa 15), .inr (4, [.ref (aa 16), .ref (aa 6)])), ((aa 16), .inl (z 1, 26, .inl (lRevI ia ct ti sh wt wh))), ((aa 17), .inr (3, [.ref (aa 18), .ref (aa 20), .int 0, .int 0, .int 0, .int 0])), ((aa 18), .inr (1, [.ref (aa 19)])), ((aa 19), .inl (z 0, 40, .inl lt)), ((aa 20), .inr (1, [.ref (aa 21)])), ((aa 21), .inl (z 0, 40, .inl ty)), ((aa 22), .inr (5, [.ref (aa 23), .int (sn + 1)])), ((aa 23), .inr (1, [.ref (aa 24)])), ((aa 24), .inl (z 0, 100, .inl (cSet 100 kp sn (tSpeed lt ty ps ml)))), ((aa 25), .inr (1, [.ref (aa 26)])), ((aa 26), .inl (z 0, 5, .inl ek)), ((aa 27), .inr (1, [.ref (aa 28)])), ((aa 28), .inl (z 0, 8, .inl ef))] H := hP
    have hD : va_D A [((aa 0), .inr (6, [.ref (aa 1), .ref (aa 6), .ref (aa 15), .ref (aa 17), .ref (aa 22), .ref (aa 25), .ref (aa 27), .int dy])), ((aa 1), .inr (0, [.ref (aa 2), .ref (aa 4)])), ((aa 2), .inr (1, [.ref (aa 3)])), ((aa 3), .inl (z 0, 26, .inl pl)), ((aa 4), .inr (1, [.ref (aa 5)])), ((aa 5), .inl (z 0, 30, .inl lo)), ((aa 6), .inr (2, [.ref (aa 7), .ref (aa 9), .ref (aa 11), .ref (aa 13), .int wt, .int wh])), ((aa 7), .inr (1, [.ref (aa 8)])), ((aa 8), .inl (z 0, 26, .inl (lM1 ia ct sh ct 0))), ((aa 9), .inr (1, [.ref (aa 10)])), ((aa 10), .inl (z 0, 26, .inl (lM1 ia ct sh ti 400))), ((aa 11), .inr (1, [.ref (aa 12)])), ((aa 12), .inl (z 0, 26, .inl (lM1 ia ct sh sh 0))), ((aa 13), .inr (1, [.ref (aa 14)])), ((aa 14), .inl (z 0, 676, .inl pr)), ((aa 15), .inr (4, [.ref (aa 16), .ref (aa 6)])), ((aa 16), .inl (z 1, 26, .inl (lRevI ia ct ti sh wt wh))), ((aa 17), .inr (3, [.ref (aa 18), .ref (aa 20), .int 0, .int 0, .int 0, .int 0])), ((aa 18), .inr (1, [.ref (aa 19)])), ((aa 19), .inl (z 0, 40, .inl lt)), ((aa 20), .inr (1, [.ref (aa 21)])), ((aa 21), .inl (z 0, 40, .inl ty)), ((aa 22), .inr (5, [.ref (aa 23), .int (sn + 1)])), ((aa 23), .inr (1, [.ref (aa 24)])), ((aa 24), .inl (z 0, 100, .inl (cSet 100 kp sn (tSpeed lt ty ps ml)))), ((aa 25), .inr (1, [.ref (aa 26)])), ((aa 26), .inl (z 0, 5, .inl ek)), ((aa 27), .inr (1, [.ref (aa 28)])), ((aa 28), .inl (z 0, 8, .inl ef))] := hD
    exact wr_i hx hb hr hlocks hP hD hS dL_act_261 rfl rfl (by omega) (by omega)
set_option maxHeartbeats 8000000 in
set_option maxRecDepth 100000 in
theorem act_t5 {N : Nat} {pl lo ct ti sh pr ia lt ty kp ek ef : Fn} {wt wh zz po me ml sn dy : Int32} (hI : CI N pl lo ct ti sh pr ia lt ty kp ek ef wt wh zz po me ml sn dy) (hN : N < 1000) (v odd how letter millis : Int32) (k0 : 6 ≤ how) (k1 : 20 ≤ how) (k2 : 23 ≤ how) (k3 : 25 ≤ how) (k4 : 30 ≤ how) (k5 : ¬ 32 ≤ how) : ∃ (S9 : Co) (a : Int32), CIN (N + 1) S9 ∧ (a = -99999 → S9 = (pl, lo, ct, ti, sh, pr, ia, lt, ty, kp, ek, ef, wt, wh, zz, po, me, ml, sn, dy)) ∧ ACTX (pl, lo, ct, ti, sh, pr, ia, lt, ty, kp, ek, ef, wt, wh, zz, po, me, ml, sn, dy) S9 a v odd how letter millis 114 := by
  have ⟨zn, hzz, hz40, hlt9, ps, hpo, hps, hty9⟩ := hI.1.2.2.2.1
  by_cases ho : odd = 0
  · by_cases e0 : bW letter 0 25 = 0
    · refine ⟨(pl, lo, ct, ti, sh, pr, ia, lt, ty, kp, ek, ef, wt, wh, zz, po, me, ml, sn, dy), -99999, CI_mono hI, fun _ => rfl, ?_⟩
      intro p l e s m below meth c D z q aa A H locs G hP hD hS ls hl
      obtain ⟨hx, hb, hr, hml, hts, hown, hlocks, hE, hA, hlt⟩ := G
      have hP : va_P D vwCl (coL z aa pl lo ct ti sh pr ia lt ty kp ek ef wt wh zz po me ml sn dy) H := hP
      have hD : va_D A (coL z aa pl lo ct ti sh pr ia lt ty kp ek ef wt wh zz po me ml sn dy) := hD
      refine lv_iload_n hx hb dL_act_114 rfl (lv_at hl 1 rfl) ?_
      refine lv_bipush (v := 6) hx hb dL_act_115 (by decide) ?_
      refine lv_icmp_ge (tgt := 130) hx hb dL_act_117 (by decide) (fun c_1 => ?_) (fun c_1 => absurd k0 c_1)
      refine lv_iload_n hx hb dL_act_130 rfl (lv_at hl 1 rfl) ?_
      refine lv_bipush (v := 20) hx hb dL_act_131 (by decide) ?_
      refine lv_icmp_ge (tgt := 190) hx hb dL_act_133 (by decide) (fun c_2 => ?_) (fun c_2 => absurd k1 c_2)
      refine lv_iload_n hx hb dL_act_190 rfl (lv_at hl 1 rfl) ?_
      refine lv_bipush (v := 23) hx hb dL_act_191 (by decide) ?_
      refine lv_icmp_ge (tgt := 206) hx hb dL_act_193 (by decide) (fun c_3 => ?_) (fun c_3 => absurd k2 c_3)
      refine lv_iload_n hx hb dL_act_206 rfl (lv_at hl 1 rfl) ?_
      refine lv_bipush (v := 25) hx hb dL_act_207 (by decide) ?_
      refine lv_icmp_ge (tgt := 247) hx hb dL_act_209 (by decide) (fun c_4 => ?_) (fun c_4 => absurd k3 c_4)
      refine lv_iload_n hx hb dL_act_247 rfl (lv_at hl 1 rfl) ?_
      refine lv_bipush (v := 30) hx hb dL_act_248 (by decide) ?_
      refine lv_icmp_ge (tgt := 262) hx hb dL_act_250 (by decide) (fun c_5 => ?_) (fun c_5 => absurd k4 c_5)
      refine lv_iload_n hx hb dL_act_262 rfl (lv_at hl 1 rfl) ?_
      refine lv_bipush (v := 32) hx hb dL_act_263 (by decide) ?_
      refine lv_icmp_ge (tgt := 310) hx hb dL_act_265 (by decide) (fun c_6 => absurd c_6 k5) (fun c_6 => ?_)
      refine lv_aload_n hx hb dL_act_268 rfl (lv_at hl 4 rfl) ?_
      refine lv_iconst (v := 0) hx hb dL_act_269 (by decide) ?_
      refine lv_iload hx hb dL_act_270 (lv_at hl 2 rfl) ?_
      refine lv_iload_n hx hb dL_act_272 rfl (lv_at hl 5 rfl) ?_
      refine lv_bipush (v := 10) hx hb dL_act_273 (by decide) ?_
      refine lv_ishr hx hb dL_act_275 ?_
      refine lv_iload_n hx hb dL_act_276 rfl (lv_at hl 0 rfl) ?_
      refine lv_if_eq (tgt := 285) hx hb dL_act_277 (by decide) (fun c_7 => ?_) (fun c_7 => absurd ho c_7)
      refine lv_bipush (v := 10) hx hb dL_act_285 (by decide) ?_
      refine rdS (As := [.int (lSh v 10), .int 10]) (rest := [.int letter, .int 0, .ref (aa 0)]) ⟨hx, hb, hml, hown, hts⟩ (c_L_low l D z q (lSh v 10) 10 (by decide)) (va_cwS 2 hts gL_act_L_low rfl rfl rfl hd_L_low ⟨Nat.le_of_ble_eq_true rfl, Nat.le_of_ble_eq_true rfl⟩) hE hS hA hP [] rfl rfl hl.1 rfl (Nat.le_of_ble_eq_true rfl) dL_act_287 ⟨(by show 0 + 0 ≤ 6; omega), (by show 0 + 0 ≤ 36; omega)⟩ ?_
      refine lv_iload_n hx hb dL_act_290 rfl (lv_at hl 5 rfl) ?_
      refine lv_bipush (v := 14) hx hb dL_act_291 (by decide) ?_
      refine lv_ishr hx hb dL_act_293 ?_
      refine lv_iload_n hx hb dL_act_294 rfl (lv_at hl 0 rfl) ?_
      refine lv_if_eq (tgt := 302) hx hb dL_act_295 (by decide) (fun c_8 => ?_) (fun c_8 => absurd ho c_8)
      refine lv_iconst (v := 3) hx hb dL_act_302 (by decide) ?_
      refine rdS (As := [.int (lSh v 14), .int 3]) (rest := [.int (lLow (lSh v 10) 10), .int letter, .int 0, .ref (aa 0)]) ⟨hx, hb, hml, hown, hts⟩ (c_L_low l D z q (lSh v 14) 3 (by decide)) (va_cwS 2 hts gL_act_L_low rfl rfl rfl hd_L_low ⟨Nat.le_of_ble_eq_true rfl, Nat.le_of_ble_eq_true rfl⟩) hE hS hA hP [] rfl rfl hl.1 rfl (Nat.le_of_ble_eq_true rfl) dL_act_303 ⟨(by show 0 + 0 ≤ 6; omega), (by show 0 + 0 ≤ 36; omega)⟩ ?_
      refine hwS (As := [.ref (aa 0), .int 0, .int letter, .int (lLow (lSh v 10) 10), .int (lLow (lSh v 14) 3)]) (rest := []) ⟨hx, hb, hml, hown, hts⟩ (c_L_does_0_0 l D z q (aa 0) (aa 1) (aa 6) (aa 15) (aa 17) (aa 22) (aa 25) (aa 27) dy (aa 2) (aa 3) (aa 4) (aa 5) pl lo letter (lLow (lSh v 10) 10) (lLow (lSh v 14) 3) H.size e0 hlt) (vx_cwSW 5 hts gL_act_L_does rfl rfl rfl hd_L_does ⟨Nat.le_of_ble_eq_true rfl, Nat.le_of_ble_eq_true rfl⟩) hE hS hA hP hD [0, 1, 2, 3, 4, 5] rfl rfl rfl rfl hl.1 rfl (Nat.le_of_ble_eq_true rfl) dL_act_306 ⟨(by show 0 + 3 ≤ 6; omega), (by show 0 + 18 ≤ 36; omega)⟩ (fun H locs hP hD hS => ?_)
      have hP : va_P D vwCl [((aa 0), .inr (6, [.ref (aa 1), .ref (aa 6), .ref (aa 15), .ref (aa 17), .ref (aa 22), .ref (aa 25), .ref (aa 27), .int dy])), ((aa 1), .inr (0, [.ref (aa 2), .ref (aa 4)])), ((aa 2), .inr (1, [.ref (aa 3)])), ((aa 3), .inl (z 0, 26, .inl pl)), ((aa 4), .inr (1, [.ref (aa 5)])), ((aa 5), .inl (z 0, 30, .inl lo)), ((aa 6), .inr (2, [.ref (aa 7), .ref (aa 9), .ref (aa 11), .ref (aa 13), .int wt, .int wh])), ((aa 7), .inr (1, [.ref (aa 8)])), ((aa 8), .inl (z 0, 26, .inl ct)), ((aa 9), .inr (1, [.ref (aa 10)])), ((aa 10), .inl (z 0, 26, .inl ti)), ((aa 11), .inr (1, [.ref (aa 12)])), ((aa 12), .inl (z 0, 26, .inl sh)), ((aa 13), .inr (1, [.ref (aa 14)])), ((aa 14), .inl (z 0, 676, .inl pr)), ((aa 15), .inr (4, [.ref (aa 16), .ref (aa 6)])), ((aa 16), .inl (z 1, 26, .inl ia)), ((aa 17), .inr (3, [.ref (aa 18), .ref (aa 20), .int zz, .int po, .int me, .int ml])), ((aa 18), .inr (1, [.ref (aa 19)])), ((aa 19), .inl (z 0, 40, .inl lt)), ((aa 20), .inr (1, [.ref (aa 21)])), ((aa 21), .inl (z 0, 40, .inl ty)), ((aa 22), .inr (5, [.ref (aa 23), .int sn])), ((aa 23), .inr (1, [.ref (aa 24)])), ((aa 24), .inl (z 0, 100, .inl kp)), ((aa 25), .inr (1, [.ref (aa 26)])), ((aa 26), .inl (z 0, 5, .inl ek)), ((aa 27), .inr (1, [.ref (aa 28)])), ((aa 28), .inl (z 0, 8, .inl ef))] H := hP
      have hD : va_D A [((aa 0), .inr (6, [.ref (aa 1), .ref (aa 6), .ref (aa 15), .ref (aa 17), .ref (aa 22), .ref (aa 25), .ref (aa 27), .int dy])), ((aa 1), .inr (0, [.ref (aa 2), .ref (aa 4)])), ((aa 2), .inr (1, [.ref (aa 3)])), ((aa 3), .inl (z 0, 26, .inl pl)), ((aa 4), .inr (1, [.ref (aa 5)])), ((aa 5), .inl (z 0, 30, .inl lo)), ((aa 6), .inr (2, [.ref (aa 7), .ref (aa 9), .ref (aa 11), .ref (aa 13), .int wt, .int wh])), ((aa 7), .inr (1, [.ref (aa 8)])), ((aa 8), .inl (z 0, 26, .inl ct)), ((aa 9), .inr (1, [.ref (aa 10)])), ((aa 10), .inl (z 0, 26, .inl ti)), ((aa 11), .inr (1, [.ref (aa 12)])), ((aa 12), .inl (z 0, 26, .inl sh)), ((aa 13), .inr (1, [.ref (aa 14)])), ((aa 14), .inl (z 0, 676, .inl pr)), ((aa 15), .inr (4, [.ref (aa 16), .ref (aa 6)])), ((aa 16), .inl (z 1, 26, .inl ia)), ((aa 17), .inr (3, [.ref (aa 18), .ref (aa 20), .int zz, .int po, .int me, .int ml])), ((aa 18), .inr (1, [.ref (aa 19)])), ((aa 19), .inl (z 0, 40, .inl lt)), ((aa 20), .inr (1, [.ref (aa 21)])), ((aa 21), .inl (z 0, 40, .inl ty)), ((aa 22), .inr (5, [.ref (aa 23), .int sn])), ((aa 23), .inr (1, [.ref (aa 24)])), ((aa 24), .inl (z 0, 100, .inl kp)), ((aa 25), .inr (1, [.ref (aa 26)])), ((aa 26), .inl (z 0, 5, .inl ek)), ((aa 27), .inr (1, [.ref (aa 28)])), ((aa 28), .inl (z 0, 8, .inl ef))] := hD
      exact wr_i hx hb hr hlocks hP hD hS dL_act_309 rfl rfl (by omega) (by omega)
    · by_cases e1 : bW (lLow (lSh v 10) 10) 0 9 = 0
      · refine ⟨(pl, lo, ct, ti, sh, pr, ia, lt, ty, kp, ek, ef, wt, wh, zz, po, me, ml, sn, dy), -99999, CI_mono hI, fun _ => rfl, ?_⟩
        intro p l e s m below meth c D z q aa A H locs G hP hD hS ls hl
        obtain ⟨hx, hb, hr, hml, hts, hown, hlocks, hE, hA, hlt⟩ := G
        have hP : va_P D vwCl (coL z aa pl lo ct ti sh pr ia lt ty kp ek ef wt wh zz po me ml sn dy) H := hP
        have hD : va_D A (coL z aa pl lo ct ti sh pr ia lt ty kp ek ef wt wh zz po me ml sn dy) := hD
        refine lv_iload_n hx hb dL_act_114 rfl (lv_at hl 1 rfl) ?_
        refine lv_bipush (v := 6) hx hb dL_act_115 (by decide) ?_
        refine lv_icmp_ge (tgt := 130) hx hb dL_act_117 (by decide) (fun c_1 => ?_) (fun c_1 => absurd k0 c_1)
        refine lv_iload_n hx hb dL_act_130 rfl (lv_at hl 1 rfl) ?_
        refine lv_bipush (v := 20) hx hb dL_act_131 (by decide) ?_
        refine lv_icmp_ge (tgt := 190) hx hb dL_act_133 (by decide) (fun c_2 => ?_) (fun c_2 => absurd k1 c_2)
        refine lv_iload_n hx hb dL_act_190 rfl (lv_at hl 1 rfl) ?_
        refine lv_bipush (v := 23) hx hb dL_act_191 (by decide) ?_
        refine lv_icmp_ge (tgt := 206) hx hb dL_act_193 (by decide) (fun c_3 => ?_) (fun c_3 => absurd k2 c_3)
        refine lv_iload_n hx hb dL_act_206 rfl (lv_at hl 1 rfl) ?_
        refine lv_bipush (v := 25) hx hb dL_act_207 (by decide) ?_
        refine lv_icmp_ge (tgt := 247) hx hb dL_act_209 (by decide) (fun c_4 => ?_) (fun c_4 => absurd k3 c_4)
        refine lv_iload_n hx hb dL_act_247 rfl (lv_at hl 1 rfl) ?_
        refine lv_bipush (v := 30) hx hb dL_act_248 (by decide) ?_
        refine lv_icmp_ge (tgt := 262) hx hb dL_act_250 (by decide) (fun c_5 => ?_) (fun c_5 => absurd k4 c_5)
        refine lv_iload_n hx hb dL_act_262 rfl (lv_at hl 1 rfl) ?_
        refine lv_bipush (v := 32) hx hb dL_act_263 (by decide) ?_
        refine lv_icmp_ge (tgt := 310) hx hb dL_act_265 (by decide) (fun c_6 => absurd c_6 k5) (fun c_6 => ?_)
        refine lv_aload_n hx hb dL_act_268 rfl (lv_at hl 4 rfl) ?_
        refine lv_iconst (v := 0) hx hb dL_act_269 (by decide) ?_
        refine lv_iload hx hb dL_act_270 (lv_at hl 2 rfl) ?_
        refine lv_iload_n hx hb dL_act_272 rfl (lv_at hl 5 rfl) ?_
        refine lv_bipush (v := 10) hx hb dL_act_273 (by decide) ?_
        refine lv_ishr hx hb dL_act_275 ?_
        refine lv_iload_n hx hb dL_act_276 rfl (lv_at hl 0 rfl) ?_
        refine lv_if_eq (tgt := 285) hx hb dL_act_277 (by decide) (fun c_7 => ?_) (fun c_7 => absurd ho c_7)
        refine lv_bipush (v := 10) hx hb dL_act_285 (by decide) ?_
        refine rdS (As := [.int (lSh v 10), .int 10]) (rest := [.int letter, .int 0, .ref (aa 0)]) ⟨hx, hb, hml, hown, hts⟩ (c_L_low l D z q (lSh v 10) 10 (by decide)) (va_cwS 2 hts gL_act_L_low rfl rfl rfl hd_L_low ⟨Nat.le_of_ble_eq_true rfl, Nat.le_of_ble_eq_true rfl⟩) hE hS hA hP [] rfl rfl hl.1 rfl (Nat.le_of_ble_eq_true rfl) dL_act_287 ⟨(by show 0 + 0 ≤ 6; omega), (by show 0 + 0 ≤ 36; omega)⟩ ?_
        refine lv_iload_n hx hb dL_act_290 rfl (lv_at hl 5 rfl) ?_
        refine lv_bipush (v := 14) hx hb dL_act_291 (by decide) ?_
        refine lv_ishr hx hb dL_act_293 ?_
        refine lv_iload_n hx hb dL_act_294 rfl (lv_at hl 0 rfl) ?_
        refine lv_if_eq (tgt := 302) hx hb dL_act_295 (by decide) (fun c_8 => ?_) (fun c_8 => absurd ho c_8)
        refine lv_iconst (v := 3) hx hb dL_act_302 (by decide) ?_
        refine rdS (As := [.int (lSh v 14), .int 3]) (rest := [.int (lLow (lSh v 10) 10), .int letter, .int 0, .ref (aa 0)]) ⟨hx, hb, hml, hown, hts⟩ (c_L_low l D z q (lSh v 14) 3 (by decide)) (va_cwS 2 hts gL_act_L_low rfl rfl rfl hd_L_low ⟨Nat.le_of_ble_eq_true rfl, Nat.le_of_ble_eq_true rfl⟩) hE hS hA hP [] rfl rfl hl.1 rfl (Nat.le_of_ble_eq_true rfl) dL_act_303 ⟨(by show 0 + 0 ≤ 6; omega), (by show 0 + 0 ≤ 36; omega)⟩ ?_
        refine hwS (As := [.ref (aa 0), .int 0, .int letter, .int (lLow (lSh v 10) 10), .int (lLow (lSh v 14) 3)]) (rest := []) ⟨hx, hb, hml, hown, hts⟩ (c_L_does_0_1 l D z q (aa 0) (aa 1) (aa 6) (aa 15) (aa 17) (aa 22) (aa 25) (aa 27) dy (aa 2) (aa 3) (aa 4) (aa 5) pl lo letter (lLow (lSh v 10) 10) (lLow (lSh v 14) 3) H.size e0 e1 hlt) (vx_cwSW 5 hts gL_act_L_does rfl rfl rfl hd_L_does ⟨Nat.le_of_ble_eq_true rfl, Nat.le_of_ble_eq_true rfl⟩) hE hS hA hP hD [0, 1, 2, 3, 4, 5] rfl rfl rfl rfl hl.1 rfl (Nat.le_of_ble_eq_true rfl) dL_act_306 ⟨(by show 0 + 3 ≤ 6; omega), (by show 0 + 18 ≤ 36; omega)⟩ (fun H locs hP hD hS => ?_)
        have hP : va_P D vwCl [((aa 0), .inr (6, [.ref (aa 1), .ref (aa 6), .ref (aa 15), .ref (aa 17), .ref (aa 22), .ref (aa 25), .ref (aa 27), .int dy])), ((aa 1), .inr (0, [.ref (aa 2), .ref (aa 4)])), ((aa 2), .inr (1, [.ref (aa 3)])), ((aa 3), .inl (z 0, 26, .inl pl)), ((aa 4), .inr (1, [.ref (aa 5)])), ((aa 5), .inl (z 0, 30, .inl lo)), ((aa 6), .inr (2, [.ref (aa 7), .ref (aa 9), .ref (aa 11), .ref (aa 13), .int wt, .int wh])), ((aa 7), .inr (1, [.ref (aa 8)])), ((aa 8), .inl (z 0, 26, .inl ct)), ((aa 9), .inr (1, [.ref (aa 10)])), ((aa 10), .inl (z 0, 26, .inl ti)), ((aa 11), .inr (1, [.ref (aa 12)])), ((aa 12), .inl (z 0, 26, .inl sh)), ((aa 13), .inr (1, [.ref (aa 14)])), ((aa 14), .inl (z 0, 676, .inl pr)), ((aa 15), .inr (4, [.ref (aa 16), .ref (aa 6)])), ((aa 16), .inl (z 1, 26, .inl ia)), ((aa 17), .inr (3, [.ref (aa 18), .ref (aa 20), .int zz, .int po, .int me, .int ml])), ((aa 18), .inr (1, [.ref (aa 19)])), ((aa 19), .inl (z 0, 40, .inl lt)), ((aa 20), .inr (1, [.ref (aa 21)])), ((aa 21), .inl (z 0, 40, .inl ty)), ((aa 22), .inr (5, [.ref (aa 23), .int sn])), ((aa 23), .inr (1, [.ref (aa 24)])), ((aa 24), .inl (z 0, 100, .inl kp)), ((aa 25), .inr (1, [.ref (aa 26)])), ((aa 26), .inl (z 0, 5, .inl ek)), ((aa 27), .inr (1, [.ref (aa 28)])), ((aa 28), .inl (z 0, 8, .inl ef))] H := hP
        have hD : va_D A [((aa 0), .inr (6, [.ref (aa 1), .ref (aa 6), .ref (aa 15), .ref (aa 17), .ref (aa 22), .ref (aa 25), .ref (aa 27), .int dy])), ((aa 1), .inr (0, [.ref (aa 2), .ref (aa 4)])), ((aa 2), .inr (1, [.ref (aa 3)])), ((aa 3), .inl (z 0, 26, .inl pl)), ((aa 4), .inr (1, [.ref (aa 5)])), ((aa 5), .inl (z 0, 30, .inl lo)), ((aa 6), .inr (2, [.ref (aa 7), .ref (aa 9), .ref (aa 11), .ref (aa 13), .int wt, .int wh])), ((aa 7), .inr (1, [.ref (aa 8)])), ((aa 8), .inl (z 0, 26, .inl ct)), ((aa 9), .inr (1, [.ref (aa 10)])), ((aa 10), .inl (z 0, 26, .inl ti)), ((aa 11), .inr (1, [.ref (aa 12)])), ((aa 12), .inl (z 0, 26, .inl sh)), ((aa 13), .inr (1, [.ref (aa 14)])), ((aa 14), .inl (z 0, 676, .inl pr)), ((aa 15), .inr (4, [.ref (aa 16), .ref (aa 6)])), ((aa 16), .inl (z 1, 26, .inl ia)), ((aa 17), .inr (3, [.ref (aa 18), .ref (aa 20), .int zz, .int po, .int me, .int ml])), ((aa 18), .inr (1, [.ref (aa 19)])), ((aa 19), .inl (z 0, 40, .inl lt)), ((aa 20), .inr (1, [.ref (aa 21)])), ((aa 21), .inl (z 0, 40, .inl ty)), ((aa 22), .inr (5, [.ref (aa 23), .int sn])), ((aa 23), .inr (1, [.ref (aa 24)])), ((aa 24), .inl (z 0, 100, .inl kp)), ((aa 25), .inr (1, [.ref (aa 26)])), ((aa 26), .inl (z 0, 5, .inl ek)), ((aa 27), .inr (1, [.ref (aa 28)])), ((aa 28), .inl (z 0, 8, .inl ef))] := hD
        exact wr_i hx hb hr hlocks hP hD hS dL_act_309 rfl rfl (by omega) (by omega)
      · by_cases e2 : bW (lLow (lSh v 14) 3) 0 2 = 0
        · refine ⟨(pl, lo, ct, ti, sh, pr, ia, lt, ty, kp, ek, ef, wt, wh, zz, po, me, ml, sn, dy), -99999, CI_mono hI, fun _ => rfl, ?_⟩
          intro p l e s m below meth c D z q aa A H locs G hP hD hS ls hl
          obtain ⟨hx, hb, hr, hml, hts, hown, hlocks, hE, hA, hlt⟩ := G
          have hP : va_P D vwCl (coL z aa pl lo ct ti sh pr ia lt ty kp ek ef wt wh zz po me ml sn dy) H := hP
          have hD : va_D A (coL z aa pl lo ct ti sh pr ia lt ty kp ek ef wt wh zz po me ml sn dy) := hD
          refine lv_iload_n hx hb dL_act_114 rfl (lv_at hl 1 rfl) ?_
          refine lv_bipush (v := 6) hx hb dL_act_115 (by decide) ?_
          refine lv_icmp_ge (tgt := 130) hx hb dL_act_117 (by decide) (fun c_1 => ?_) (fun c_1 => absurd k0 c_1)
          refine lv_iload_n hx hb dL_act_130 rfl (lv_at hl 1 rfl) ?_
          refine lv_bipush (v := 20) hx hb dL_act_131 (by decide) ?_
          refine lv_icmp_ge (tgt := 190) hx hb dL_act_133 (by decide) (fun c_2 => ?_) (fun c_2 => absurd k1 c_2)
          refine lv_iload_n hx hb dL_act_190 rfl (lv_at hl 1 rfl) ?_
          refine lv_bipush (v := 23) hx hb dL_act_191 (by decide) ?_
          refine lv_icmp_ge (tgt := 206) hx hb dL_act_193 (by decide) (fun c_3 => ?_) (fun c_3 => absurd k2 c_3)
          refine lv_iload_n hx hb dL_act_206 rfl (lv_at hl 1 rfl) ?_
          refine lv_bipush (v := 25) hx hb dL_act_207 (by decide) ?_
          refine lv_icmp_ge (tgt := 247) hx hb dL_act_209 (by decide) (fun c_4 => ?_) (fun c_4 => absurd k3 c_4)
          refine lv_iload_n hx hb dL_act_247 rfl (lv_at hl 1 rfl) ?_
          refine lv_bipush (v := 30) hx hb dL_act_248 (by decide) ?_
          refine lv_icmp_ge (tgt := 262) hx hb dL_act_250 (by decide) (fun c_5 => ?_) (fun c_5 => absurd k4 c_5)
          refine lv_iload_n hx hb dL_act_262 rfl (lv_at hl 1 rfl) ?_
          refine lv_bipush (v := 32) hx hb dL_act_263 (by decide) ?_
          refine lv_icmp_ge (tgt := 310) hx hb dL_act_265 (by decide) (fun c_6 => absurd c_6 k5) (fun c_6 => ?_)
          refine lv_aload_n hx hb dL_act_268 rfl (lv_at hl 4 rfl) ?_
          refine lv_iconst (v := 0) hx hb dL_act_269 (by decide) ?_
          refine lv_iload hx hb dL_act_270 (lv_at hl 2 rfl) ?_
          refine lv_iload_n hx hb dL_act_272 rfl (lv_at hl 5 rfl) ?_
          refine lv_bipush (v := 10) hx hb dL_act_273 (by decide) ?_
          refine lv_ishr hx hb dL_act_275 ?_
          refine lv_iload_n hx hb dL_act_276 rfl (lv_at hl 0 rfl) ?_
          refine lv_if_eq (tgt := 285) hx hb dL_act_277 (by decide) (fun c_7 => ?_) (fun c_7 => absurd ho c_7)
          refine lv_bipush (v := 10) hx hb dL_act_285 (by decide) ?_
          refine rdS (As := [.int (lSh v 10), .int 10]) (rest := [.int letter, .int 0, .ref (aa 0)]) ⟨hx, hb, hml, hown, hts⟩ (c_L_low l D z q (lSh v 10) 10 (by decide)) (va_cwS 2 hts gL_act_L_low rfl rfl rfl hd_L_low ⟨Nat.le_of_ble_eq_true rfl, Nat.le_of_ble_eq_true rfl⟩) hE hS hA hP [] rfl rfl hl.1 rfl (Nat.le_of_ble_eq_true rfl) dL_act_287 ⟨(by show 0 + 0 ≤ 6; omega), (by show 0 + 0 ≤ 36; omega)⟩ ?_
          refine lv_iload_n hx hb dL_act_290 rfl (lv_at hl 5 rfl) ?_
          refine lv_bipush (v := 14) hx hb dL_act_291 (by decide) ?_
          refine lv_ishr hx hb dL_act_293 ?_
          refine lv_iload_n hx hb dL_act_294 rfl (lv_at hl 0 rfl) ?_
          refine lv_if_eq (tgt := 302) hx hb dL_act_295 (by decide) (fun c_8 => ?_) (fun c_8 => absurd ho c_8)
          refine lv_iconst (v := 3) hx hb dL_act_302 (by decide) ?_
          refine rdS (As := [.int (lSh v 14), .int 3]) (rest := [.int (lLow (lSh v 10) 10), .int letter, .int 0, .ref (aa 0)]) ⟨hx, hb, hml, hown, hts⟩ (c_L_low l D z q (lSh v 14) 3 (by decide)) (va_cwS 2 hts gL_act_L_low rfl rfl rfl hd_L_low ⟨Nat.le_of_ble_eq_true rfl, Nat.le_of_ble_eq_true rfl⟩) hE hS hA hP [] rfl rfl hl.1 rfl (Nat.le_of_ble_eq_true rfl) dL_act_303 ⟨(by show 0 + 0 ≤ 6; omega), (by show 0 + 0 ≤ 36; omega)⟩ ?_
          refine hwS (As := [.ref (aa 0), .int 0, .int letter, .int (lLow (lSh v 10) 10), .int (lLow (lSh v 14) 3)]) (rest := []) ⟨hx, hb, hml, hown, hts⟩ (c_L_does_0_2 l D z q (aa 0) (aa 1) (aa 6) (aa 15) (aa 17) (aa 22) (aa 25) (aa 27) dy (aa 2) (aa 3) (aa 4) (aa 5) pl lo letter (lLow (lSh v 10) 10) (lLow (lSh v 14) 3) H.size e0 e1 e2 hlt) (vx_cwSW 5 hts gL_act_L_does rfl rfl rfl hd_L_does ⟨Nat.le_of_ble_eq_true rfl, Nat.le_of_ble_eq_true rfl⟩) hE hS hA hP hD [0, 1, 2, 3, 4, 5] rfl rfl rfl rfl hl.1 rfl (Nat.le_of_ble_eq_true rfl) dL_act_306 ⟨(by show 0 + 3 ≤ 6; omega), (by show 0 + 18 ≤ 36; omega)⟩ (fun H locs hP hD hS => ?_)
          have hP : va_P D vwCl [((aa 0), .inr (6, [.ref (aa 1), .ref (aa 6), .ref (aa 15), .ref (aa 17), .ref (aa 22), .ref (aa 25), .ref (aa 27), .int dy])), ((aa 1), .inr (0, [.ref (aa 2), .ref (aa 4)])), ((aa 2), .inr (1, [.ref (aa 3)])), ((aa 3), .inl (z 0, 26, .inl pl)), ((aa 4), .inr (1, [.ref (aa 5)])), ((aa 5), .inl (z 0, 30, .inl lo)), ((aa 6), .inr (2, [.ref (aa 7), .ref (aa 9), .ref (aa 11), .ref (aa 13), .int wt, .int wh])), ((aa 7), .inr (1, [.ref (aa 8)])), ((aa 8), .inl (z 0, 26, .inl ct)), ((aa 9), .inr (1, [.ref (aa 10)])), ((aa 10), .inl (z 0, 26, .inl ti)), ((aa 11), .inr (1, [.ref (aa 12)])), ((aa 12), .inl (z 0, 26, .inl sh)), ((aa 13), .inr (1, [.ref (aa 14)])), ((aa 14), .inl (z 0, 676, .inl pr)), ((aa 15), .inr (4, [.ref (aa 16), .ref (aa 6)])), ((aa 16), .inl (z 1, 26, .inl ia)), ((aa 17), .inr (3, [.ref (aa 18), .ref (aa 20), .int zz, .int po, .int me, .int ml])), ((aa 18), .inr (1, [.ref (aa 19)])), ((aa 19), .inl (z 0, 40, .inl lt)), ((aa 20), .inr (1, [.ref (aa 21)])), ((aa 21), .inl (z 0, 40, .inl ty)), ((aa 22), .inr (5, [.ref (aa 23), .int sn])), ((aa 23), .inr (1, [.ref (aa 24)])), ((aa 24), .inl (z 0, 100, .inl kp)), ((aa 25), .inr (1, [.ref (aa 26)])), ((aa 26), .inl (z 0, 5, .inl ek)), ((aa 27), .inr (1, [.ref (aa 28)])), ((aa 28), .inl (z 0, 8, .inl ef))] H := hP
          have hD : va_D A [((aa 0), .inr (6, [.ref (aa 1), .ref (aa 6), .ref (aa 15), .ref (aa 17), .ref (aa 22), .ref (aa 25), .ref (aa 27), .int dy])), ((aa 1), .inr (0, [.ref (aa 2), .ref (aa 4)])), ((aa 2), .inr (1, [.ref (aa 3)])), ((aa 3), .inl (z 0, 26, .inl pl)), ((aa 4), .inr (1, [.ref (aa 5)])), ((aa 5), .inl (z 0, 30, .inl lo)), ((aa 6), .inr (2, [.ref (aa 7), .ref (aa 9), .ref (aa 11), .ref (aa 13), .int wt, .int wh])), ((aa 7), .inr (1, [.ref (aa 8)])), ((aa 8), .inl (z 0, 26, .inl ct)), ((aa 9), .inr (1, [.ref (aa 10)])), ((aa 10), .inl (z 0, 26, .inl ti)), ((aa 11), .inr (1, [.ref (aa 12)])), ((aa 12), .inl (z 0, 26, .inl sh)), ((aa 13), .inr (1, [.ref (aa 14)])), ((aa 14), .inl (z 0, 676, .inl pr)), ((aa 15), .inr (4, [.ref (aa 16), .ref (aa 6)])), ((aa 16), .inl (z 1, 26, .inl ia)), ((aa 17), .inr (3, [.ref (aa 18), .ref (aa 20), .int zz, .int po, .int me, .int ml])), ((aa 18), .inr (1, [.ref (aa 19)])), ((aa 19), .inl (z 0, 40, .inl lt)), ((aa 20), .inr (1, [.ref (aa 21)])), ((aa 21), .inl (z 0, 40, .inl ty)), ((aa 22), .inr (5, [.ref (aa 23), .int sn])), ((aa 23), .inr (1, [.ref (aa 24)])), ((aa 24), .inl (z 0, 100, .inl kp)), ((aa 25), .inr (1, [.ref (aa 26)])), ((aa 26), .inl (z 0, 5, .inl ek)), ((aa 27), .inr (1, [.ref (aa 28)])), ((aa 28), .inl (z 0, 8, .inl ef))] := hD
          exact wr_i hx hb hr hlocks hP hD hS dL_act_309 rfl rfl (by omega) (by omega)
        · refine ⟨(bMovP pl lo letter ((lLow (lSh v 14) 3) * 10 + (lLow (lSh v 10) 10)), bMovL pl lo letter ((lLow (lSh v 14) 3) * 10 + (lLow (lSh v 10) 10)), ct, ti, sh, pr, ia, lt, ty, kp, ek, ef, wt, wh, zz, po, me, ml, sn, dy), cAt 30 lo ((lLow (lSh v 14) 3) * 10 + (lLow (lSh v 10) 10)), (CI_put hI e0 e1 e2).1, fun h => absurd h (CI_put hI e0 e1 e2).2, ?_⟩
          intro p l e s m below meth c D z q aa A H locs G hP hD hS ls hl
          obtain ⟨hx, hb, hr, hml, hts, hown, hlocks, hE, hA, hlt⟩ := G
          have hP : va_P D vwCl (coL z aa pl lo ct ti sh pr ia lt ty kp ek ef wt wh zz po me ml sn dy) H := hP
          have hD : va_D A (coL z aa pl lo ct ti sh pr ia lt ty kp ek ef wt wh zz po me ml sn dy) := hD
          refine lv_iload_n hx hb dL_act_114 rfl (lv_at hl 1 rfl) ?_
          refine lv_bipush (v := 6) hx hb dL_act_115 (by decide) ?_
          refine lv_icmp_ge (tgt := 130) hx hb dL_act_117 (by decide) (fun c_1 => ?_) (fun c_1 => absurd k0 c_1)
          refine lv_iload_n hx hb dL_act_130 rfl (lv_at hl 1 rfl) ?_
          refine lv_bipush (v := 20) hx hb dL_act_131 (by decide) ?_
          refine lv_icmp_ge (tgt := 190) hx hb dL_act_133 (by decide) (fun c_2 => ?_) (fun c_2 => absurd k1 c_2)
          refine lv_iload_n hx hb dL_act_190 rfl (lv_at hl 1 rfl) ?_
          refine lv_bipush (v := 23) hx hb dL_act_191 (by decide) ?_
          refine lv_icmp_ge (tgt := 206) hx hb dL_act_193 (by decide) (fun c_3 => ?_) (fun c_3 => absurd k2 c_3)
          refine lv_iload_n hx hb dL_act_206 rfl (lv_at hl 1 rfl) ?_
          refine lv_bipush (v := 25) hx hb dL_act_207 (by decide) ?_
          refine lv_icmp_ge (tgt := 247) hx hb dL_act_209 (by decide) (fun c_4 => ?_) (fun c_4 => absurd k3 c_4)
          refine lv_iload_n hx hb dL_act_247 rfl (lv_at hl 1 rfl) ?_
          refine lv_bipush (v := 30) hx hb dL_act_248 (by decide) ?_
          refine lv_icmp_ge (tgt := 262) hx hb dL_act_250 (by decide) (fun c_5 => ?_) (fun c_5 => absurd k4 c_5)
          refine lv_iload_n hx hb dL_act_262 rfl (lv_at hl 1 rfl) ?_
          refine lv_bipush (v := 32) hx hb dL_act_263 (by decide) ?_
          refine lv_icmp_ge (tgt := 310) hx hb dL_act_265 (by decide) (fun c_6 => absurd c_6 k5) (fun c_6 => ?_)
          refine lv_aload_n hx hb dL_act_268 rfl (lv_at hl 4 rfl) ?_
          refine lv_iconst (v := 0) hx hb dL_act_269 (by decide) ?_
          refine lv_iload hx hb dL_act_270 (lv_at hl 2 rfl) ?_
          refine lv_iload_n hx hb dL_act_272 rfl (lv_at hl 5 rfl) ?_
          refine lv_bipush (v := 10) hx hb dL_act_273 (by decide) ?_
          refine lv_ishr hx hb dL_act_275 ?_
          refine lv_iload_n hx hb dL_act_276 rfl (lv_at hl 0 rfl) ?_
          refine lv_if_eq (tgt := 285) hx hb dL_act_277 (by decide) (fun c_7 => ?_) (fun c_7 => absurd ho c_7)
          refine lv_bipush (v := 10) hx hb dL_act_285 (by decide) ?_
          refine rdS (As := [.int (lSh v 10), .int 10]) (rest := [.int letter, .int 0, .ref (aa 0)]) ⟨hx, hb, hml, hown, hts⟩ (c_L_low l D z q (lSh v 10) 10 (by decide)) (va_cwS 2 hts gL_act_L_low rfl rfl rfl hd_L_low ⟨Nat.le_of_ble_eq_true rfl, Nat.le_of_ble_eq_true rfl⟩) hE hS hA hP [] rfl rfl hl.1 rfl (Nat.le_of_ble_eq_true rfl) dL_act_287 ⟨(by show 0 + 0 ≤ 6; omega), (by show 0 + 0 ≤ 36; omega)⟩ ?_
          refine lv_iload_n hx hb dL_act_290 rfl (lv_at hl 5 rfl) ?_
          refine lv_bipush (v := 14) hx hb dL_act_291 (by decide) ?_
          refine lv_ishr hx hb dL_act_293 ?_
          refine lv_iload_n hx hb dL_act_294 rfl (lv_at hl 0 rfl) ?_
          refine lv_if_eq (tgt := 302) hx hb dL_act_295 (by decide) (fun c_8 => ?_) (fun c_8 => absurd ho c_8)
          refine lv_iconst (v := 3) hx hb dL_act_302 (by decide) ?_
          refine rdS (As := [.int (lSh v 14), .int 3]) (rest := [.int (lLow (lSh v 10) 10), .int letter, .int 0, .ref (aa 0)]) ⟨hx, hb, hml, hown, hts⟩ (c_L_low l D z q (lSh v 14) 3 (by decide)) (va_cwS 2 hts gL_act_L_low rfl rfl rfl hd_L_low ⟨Nat.le_of_ble_eq_true rfl, Nat.le_of_ble_eq_true rfl⟩) hE hS hA hP [] rfl rfl hl.1 rfl (Nat.le_of_ble_eq_true rfl) dL_act_303 ⟨(by show 0 + 0 ≤ 6; omega), (by show 0 + 0 ≤ 36; omega)⟩ ?_
          refine hwS (As := [.ref (aa 0), .int 0, .int letter, .int (lLow (lSh v 10) 10), .int (lLow (lSh v 14) 3)]) (rest := []) ⟨hx, hb, hml, hown, hts⟩ (c_L_does_0_3 l D z q (aa 0) (aa 1) (aa 6) (aa 15) (aa 17) (aa 22) (aa 25) (aa 27) dy (aa 2) (aa 3) (aa 4) (aa 5) pl lo letter (lLow (lSh v 10) 10) (lLow (lSh v 14) 3) H.size e0 e1 e2 hlt) (vx_cwSW 5 hts gL_act_L_does rfl rfl rfl hd_L_does ⟨Nat.le_of_ble_eq_true rfl, Nat.le_of_ble_eq_true rfl⟩) hE hS hA hP hD [0, 1, 2, 3, 4, 5] rfl rfl rfl rfl hl.1 rfl (Nat.le_of_ble_eq_true rfl) dL_act_306 ⟨(by show 0 + 3 ≤ 6; omega), (by show 0 + 18 ≤ 36; omega)⟩ (fun H locs hP hD hS => ?_)
          have hP : va_P D vwCl [((aa 0), .inr (6, [.ref (aa 1), .ref (aa 6), .ref (aa 15), .ref (aa 17), .ref (aa 22), .ref (aa 25), .ref (aa 27), .int dy])), ((aa 1), .inr (0, [.ref (aa 2), .ref (aa 4)])), ((aa 2), .inr (1, [.ref (aa 3)])), ((aa 3), .inl (z 0, 26, .inl (bMovP pl lo letter ((lLow (lSh v 14) 3) * 10 + (lLow (lSh v 10) 10))))), ((aa 4), .inr (1, [.ref (aa 5)])), ((aa 5), .inl (z 0, 30, .inl (bMovL pl lo letter ((lLow (lSh v 14) 3) * 10 + (lLow (lSh v 10) 10))))), ((aa 6), .inr (2, [.ref (aa 7), .ref (aa 9), .ref (aa 11), .ref (aa 13), .int wt, .int wh])), ((aa 7), .inr (1, [.ref (aa 8)])), ((aa 8), .inl (z 0, 26, .inl ct)), ((aa 9), .inr (1, [.ref (aa 10)])), ((aa 10), .inl (z 0, 26, .inl ti)), ((aa 11), .inr (1, [.ref (aa 12)])), ((aa 12), .inl (z 0, 26, .inl sh)), ((aa 13), .inr (1, [.ref (aa 14)])), ((aa 14), .inl (z 0, 676, .inl pr)), ((aa 15), .inr (4, [.ref (aa 16), .ref (aa 6)])), ((aa 16), .inl (z 1, 26, .inl ia)), ((aa 17), .inr (3, [.ref (aa 18), .ref (aa 20), .int zz, .int po, .int me, .int ml])), ((aa 18), .inr (1, [.ref (aa 19)])), ((aa 19), .inl (z 0, 40, .inl lt)), ((aa 20), .inr (1, [.ref (aa 21)])), ((aa 21), .inl (z 0, 40, .inl ty)), ((aa 22), .inr (5, [.ref (aa 23), .int sn])), ((aa 23), .inr (1, [.ref (aa 24)])), ((aa 24), .inl (z 0, 100, .inl kp)), ((aa 25), .inr (1, [.ref (aa 26)])), ((aa 26), .inl (z 0, 5, .inl ek)), ((aa 27), .inr (1, [.ref (aa 28)])), ((aa 28), .inl (z 0, 8, .inl ef))] H := hP
          have hD : va_D A [((aa 0), .inr (6, [.ref (aa 1), .ref (aa 6), .ref (aa 15), .ref (aa 17), .ref (aa 22), .ref (aa 25), .ref (aa 27), .int dy])), ((aa 1), .inr (0, [.ref (aa 2), .ref (aa 4)])), ((aa 2), .inr (1, [.ref (aa 3)])), ((aa 3), .inl (z 0, 26, .inl (bMovP pl lo letter ((lLow (lSh v 14) 3) * 10 + (lLow (lSh v 10) 10))))), ((aa 4), .inr (1, [.ref (aa 5)])), ((aa 5), .inl (z 0, 30, .inl (bMovL pl lo letter ((lLow (lSh v 14) 3) * 10 + (lLow (lSh v 10) 10))))), ((aa 6), .inr (2, [.ref (aa 7), .ref (aa 9), .ref (aa 11), .ref (aa 13), .int wt, .int wh])), ((aa 7), .inr (1, [.ref (aa 8)])), ((aa 8), .inl (z 0, 26, .inl ct)), ((aa 9), .inr (1, [.ref (aa 10)])), ((aa 10), .inl (z 0, 26, .inl ti)), ((aa 11), .inr (1, [.ref (aa 12)])), ((aa 12), .inl (z 0, 26, .inl sh)), ((aa 13), .inr (1, [.ref (aa 14)])), ((aa 14), .inl (z 0, 676, .inl pr)), ((aa 15), .inr (4, [.ref (aa 16), .ref (aa 6)])), ((aa 16), .inl (z 1, 26, .inl ia)), ((aa 17), .inr (3, [.ref (aa 18), .ref (aa 20), .int zz, .int po, .int me, .int ml])), ((aa 18), .inr (1, [.ref (aa 19)])), ((aa 19), .inl (z 0, 40, .inl lt)), ((aa 20), .inr (1, [.ref (aa 21)])), ((aa 21), .inl (z 0, 40, .inl ty)), ((aa 22), .inr (5, [.ref (aa 23), .int sn])), ((aa 23), .inr (1, [.ref (aa 24)])), ((aa 24), .inl (z 0, 100, .inl kp)), ((aa 25), .inr (1, [.ref (aa 26)])), ((aa 26), .inl (z 0, 5, .inl ek)), ((aa 27), .inr (1, [.ref (aa 28)])), ((aa 28), .inl (z 0, 8, .inl ef))] := hD
          exact wr_i hx hb hr hlocks hP hD hS dL_act_309 rfl rfl (by omega) (by omega)
  · by_cases e0 : bW letter 0 25 = 0
    · refine ⟨(pl, lo, ct, ti, sh, pr, ia, lt, ty, kp, ek, ef, wt, wh, zz, po, me, ml, sn, dy), -99999, CI_mono hI, fun _ => rfl, ?_⟩
      intro p l e s m below meth c D z q aa A H locs G hP hD hS ls hl
      obtain ⟨hx, hb, hr, hml, hts, hown, hlocks, hE, hA, hlt⟩ := G
      have hP : va_P D vwCl (coL z aa pl lo ct ti sh pr ia lt ty kp ek ef wt wh zz po me ml sn dy) H := hP
      have hD : va_D A (coL z aa pl lo ct ti sh pr ia lt ty kp ek ef wt wh zz po me ml sn dy) := hD
      refine lv_iload_n hx hb dL_act_114 rfl (lv_at hl 1 rfl) ?_
      refine lv_bipush (v := 6) hx hb dL_act_115 (by decide) ?_
      refine lv_icmp_ge (tgt := 130) hx hb dL_act_117 (by decide) (fun c_1 => ?_) (fun c_1 => absurd k0 c_1)
      refine lv_iload_n hx hb dL_act_130 rfl (lv_at hl 1 rfl) ?_
      refine lv_bipush (v := 20) hx hb dL_act_131 (by decide) ?_
      refine lv_icmp_ge (tgt := 190) hx hb dL_act_133 (by decide) (fun c_2 => ?_) (fun c_2 => absurd k1 c_2)
      refine lv_iload_n hx hb dL_act_190 rfl (lv_at hl 1 rfl) ?_
      refine lv_bipush (v := 23) hx hb dL_act_191 (by decide) ?_
      refine lv_icmp_ge (tgt := 206) hx hb dL_act_193 (by decide) (fun c_3 => ?_) (fun c_3 => absurd k2 c_3)
      refine lv_iload_n hx hb dL_act_206 rfl (lv_at hl 1 rfl) ?_
      refine lv_bipush (v := 25) hx hb dL_act_207 (by decide) ?_
      refine lv_icmp_ge (tgt := 247) hx hb dL_act_209 (by decide) (fun c_4 => ?_) (fun c_4 => absurd k3 c_4)
      refine lv_iload_n hx hb dL_act_247 rfl (lv_at hl 1 rfl) ?_
      refine lv_bipush (v := 30) hx hb dL_act_248 (by decide) ?_
      refine lv_icmp_ge (tgt := 262) hx hb dL_act_250 (by decide) (fun c_5 => ?_) (fun c_5 => absurd k4 c_5)
      refine lv_iload_n hx hb dL_act_262 rfl (lv_at hl 1 rfl) ?_
      refine lv_bipush (v := 32) hx hb dL_act_263 (by decide) ?_
      refine lv_icmp_ge (tgt := 310) hx hb dL_act_265 (by decide) (fun c_6 => absurd c_6 k5) (fun c_6 => ?_)
      refine lv_aload_n hx hb dL_act_268 rfl (lv_at hl 4 rfl) ?_
      refine lv_iconst (v := 0) hx hb dL_act_269 (by decide) ?_
      refine lv_iload hx hb dL_act_270 (lv_at hl 2 rfl) ?_
      refine lv_iload_n hx hb dL_act_272 rfl (lv_at hl 5 rfl) ?_
      refine lv_bipush (v := 10) hx hb dL_act_273 (by decide) ?_
      refine lv_ishr hx hb dL_act_275 ?_
      refine lv_iload_n hx hb dL_act_276 rfl (lv_at hl 0 rfl) ?_
      refine lv_if_eq (tgt := 285) hx hb dL_act_277 (by decide) (fun c_7 => absurd c_7 ho) (fun c_7 => ?_)
      refine lv_bipush (v := 12) hx hb dL_act_280 (by decide) ?_
      refine lv_goto (tgt := 287) hx hb dL_act_282 (by decide) ?_
      refine rdS (As := [.int (lSh v 10), .int 12]) (rest := [.int letter, .int 0, .ref (aa 0)]) ⟨hx, hb, hml, hown, hts⟩ (c_L_low l D z q (lSh v 10) 12 (by decide)) (va_cwS 2 hts gL_act_L_low rfl rfl rfl hd_L_low ⟨Nat.le_of_ble_eq_true rfl, Nat.le_of_ble_eq_true rfl⟩) hE hS hA hP [] rfl rfl hl.1 rfl (Nat.le_of_ble_eq_true rfl) dL_act_287 ⟨(by show 0 + 0 ≤ 6; omega), (by show 0 + 0 ≤ 36; omega)⟩ ?_
      refine lv_iload_n hx hb dL_act_290 rfl (lv_at hl 5 rfl) ?_
      refine lv_bipush (v := 14) hx hb dL_act_291 (by decide) ?_
      refine lv_ishr hx hb dL_act_293 ?_
      refine lv_iload_n hx hb dL_act_294 rfl (lv_at hl 0 rfl) ?_
      refine lv_if_eq (tgt := 302) hx hb dL_act_295 (by decide) (fun c_8 => absurd c_8 ho) (fun c_8 => ?_)
      refine lv_iconst (v := 5) hx hb dL_act_298 (by decide) ?_
      refine lv_goto (tgt := 303) hx hb dL_act_299 (by decide) ?_
      refine rdS (As := [.int (lSh v 14), .int 5]) (rest := [.int (lLow (lSh v 10) 12), .int letter, .int 0, .ref (aa 0)]) ⟨hx, hb, hml, hown, hts⟩ (c_L_low l D z q (lSh v 14) 5 (by decide)) (va_cwS 2 hts gL_act_L_low rfl rfl rfl hd_L_low ⟨Nat.le_of_ble_eq_true rfl, Nat.le_of_ble_eq_true rfl⟩) hE hS hA hP [] rfl rfl hl.1 rfl (Nat.le_of_ble_eq_true rfl) dL_act_303 ⟨(by show 0 + 0 ≤ 6; omega), (by show 0 + 0 ≤ 36; omega)⟩ ?_
      refine hwS (As := [.ref (aa 0), .int 0, .int letter, .int (lLow (lSh v 10) 12), .int (lLow (lSh v 14) 5)]) (rest := []) ⟨hx, hb, hml, hown, hts⟩ (c_L_does_0_0 l D z q (aa 0) (aa 1) (aa 6) (aa 15) (aa 17) (aa 22) (aa 25) (aa 27) dy (aa 2) (aa 3) (aa 4) (aa 5) pl lo letter (lLow (lSh v 10) 12) (lLow (lSh v 14) 5) H.size e0 hlt) (vx_cwSW 5 hts gL_act_L_does rfl rfl rfl hd_L_does ⟨Nat.le_of_ble_eq_true rfl, Nat.le_of_ble_eq_true rfl⟩) hE hS hA hP hD [0, 1, 2, 3, 4, 5] rfl rfl rfl rfl hl.1 rfl (Nat.le_of_ble_eq_true rfl) dL_act_306 ⟨(by show 0 + 3 ≤ 6; omega), (by show 0 + 18 ≤ 36; omega)⟩ (fun H locs hP hD hS => ?_)
      have hP : va_P D vwCl [((aa 0), .inr (6, [.ref (aa 1), .ref (aa 6), .ref (aa 15), .ref (aa 17), .ref (aa 22), .ref (aa 25), .ref (aa 27), .int dy])), ((aa 1), .inr (0, [.ref (aa 2), .ref (aa 4)])), ((aa 2), .inr (1, [.ref (aa 3)])), ((aa 3), .inl (z 0, 26, .inl pl)), ((aa 4), .inr (1, [.ref (aa 5)])), ((aa 5), .inl (z 0, 30, .inl lo)), ((aa 6), .inr (2, [.ref (aa 7), .ref (aa 9), .ref (aa 11), .ref (aa 13), .int wt, .int wh])), ((aa 7), .inr (1, [.ref (aa 8)])), ((aa 8), .inl (z 0, 26, .inl ct)), ((aa 9), .inr (1, [.ref (aa 10)])), ((aa 10), .inl (z 0, 26, .inl ti)), ((aa 11), .inr (1, [.ref (aa 12)])), ((aa 12), .inl (z 0, 26, .inl sh)), ((aa 13), .inr (1, [.ref (aa 14)])), ((aa 14), .inl (z 0, 676, .inl pr)), ((aa 15), .inr (4, [.ref (aa 16), .ref (aa 6)])), ((aa 16), .inl (z 1, 26, .inl ia)), ((aa 17), .inr (3, [.ref (aa 18), .ref (aa 20), .int zz, .int po, .int me, .int ml])), ((aa 18), .inr (1, [.ref (aa 19)])), ((aa 19), .inl (z 0, 40, .inl lt)), ((aa 20), .inr (1, [.ref (aa 21)])), ((aa 21), .inl (z 0, 40, .inl ty)), ((aa 22), .inr (5, [.ref (aa 23), .int sn])), ((aa 23), .inr (1, [.ref (aa 24)])), ((aa 24), .inl (z 0, 100, .inl kp)), ((aa 25), .inr (1, [.ref (aa 26)])), ((aa 26), .inl (z 0, 5, .inl ek)), ((aa 27), .inr (1, [.ref (aa 28)])), ((aa 28), .inl (z 0, 8, .inl ef))] H := hP
      have hD : va_D A [((aa 0), .inr (6, [.ref (aa 1), .ref (aa 6), .ref (aa 15), .ref (aa 17), .ref (aa 22), .ref (aa 25), .ref (aa 27), .int dy])), ((aa 1), .inr (0, [.ref (aa 2), .ref (aa 4)])), ((aa 2), .inr (1, [.ref (aa 3)])), ((aa 3), .inl (z 0, 26, .inl pl)), ((aa 4), .inr (1, [.ref (aa 5)])), ((aa 5), .inl (z 0, 30, .inl lo)), ((aa 6), .inr (2, [.ref (aa 7), .ref (aa 9), .ref (aa 11), .ref (aa 13), .int wt, .int wh])), ((aa 7), .inr (1, [.ref (aa 8)])), ((aa 8), .inl (z 0, 26, .inl ct)), ((aa 9), .inr (1, [.ref (aa 10)])), ((aa 10), .inl (z 0, 26, .inl ti)), ((aa 11), .inr (1, [.ref (aa 12)])), ((aa 12), .inl (z 0, 26, .inl sh)), ((aa 13), .inr (1, [.ref (aa 14)])), ((aa 14), .inl (z 0, 676, .inl pr)), ((aa 15), .inr (4, [.ref (aa 16), .ref (aa 6)])), ((aa 16), .inl (z 1, 26, .inl ia)), ((aa 17), .inr (3, [.ref (aa 18), .ref (aa 20), .int zz, .int po, .int me, .int ml])), ((aa 18), .inr (1, [.ref (aa 19)])), ((aa 19), .inl (z 0, 40, .inl lt)), ((aa 20), .inr (1, [.ref (aa 21)])), ((aa 21), .inl (z 0, 40, .inl ty)), ((aa 22), .inr (5, [.ref (aa 23), .int sn])), ((aa 23), .inr (1, [.ref (aa 24)])), ((aa 24), .inl (z 0, 100, .inl kp)), ((aa 25), .inr (1, [.ref (aa 26)])), ((aa 26), .inl (z 0, 5, .inl ek)), ((aa 27), .inr (1, [.ref (aa 28)])), ((aa 28), .inl (z 0, 8, .inl ef))] := hD
      exact wr_i hx hb hr hlocks hP hD hS dL_act_309 rfl rfl (by omega) (by omega)
    · by_cases e1 : bW (lLow (lSh v 10) 12) 0 9 = 0
      · refine ⟨(pl, lo, ct, ti, sh, pr, ia, lt, ty, kp, ek, ef, wt, wh, zz, po, me, ml, sn, dy), -99999, CI_mono hI, fun _ => rfl, ?_⟩
        intro p l e s m below meth c D z q aa A H locs G hP hD hS ls hl
        obtain ⟨hx, hb, hr, hml, hts, hown, hlocks, hE, hA, hlt⟩ := G
        have hP : va_P D vwCl (coL z aa pl lo ct ti sh pr ia lt ty kp ek ef wt wh zz po me ml sn dy) H := hP
        have hD : va_D A (coL z aa pl lo ct ti sh pr ia lt ty kp ek ef wt wh zz po me ml sn dy) := hD
        refine lv_iload_n hx hb dL_act_114 rfl (lv_at hl 1 rfl) ?_
        refine lv_bipush (v := 6) hx hb dL_act_115 (by decide) ?_
        refine lv_icmp_ge (tgt := 130) hx hb dL_act_117 (by decide) (fun c_1 => ?_) (fun c_1 => absurd k0 c_1)
        refine lv_iload_n hx hb dL_act_130 rfl (lv_at hl 1 rfl) ?_
        refine lv_bipush (v := 20) hx hb dL_act_131 (by decide) ?_
        refine lv_icmp_ge (tgt := 190) hx hb dL_act_133 (by decide) (fun c_2 => ?_) (fun c_2 => absurd k1 c_2)
        refine lv_iload_n hx hb dL_act_190 rfl (lv_at hl 1 rfl) ?_
        refine lv_bipush (v := 23) hx hb dL_act_191 (by decide) ?_
        refine lv_icmp_ge (tgt := 206) hx hb dL_act_193 (by decide) (fun c_3 => ?_) (fun c_3 => absurd k2 c_3)
        refine lv_iload_n hx hb dL_act_206 rfl (lv_at hl 1 rfl) ?_
        refine lv_bipush (v := 25) hx hb dL_act_207 (by decide) ?_
        refine lv_icmp_ge (tgt := 247) hx hb dL_act_209 (by decide) (fun c_4 => ?_) (fun c_4 => absurd k3 c_4)
        refine lv_iload_n hx hb dL_act_247 rfl (lv_at hl 1 rfl) ?_
        refine lv_bipush (v := 30) hx hb dL_act_248 (by decide) ?_
        refine lv_icmp_ge (tgt := 262) hx hb dL_act_250 (by decide) (fun c_5 => ?_) (fun c_5 => absurd k4 c_5)
        refine lv_iload_n hx hb dL_act_262 rfl (lv_at hl 1 rfl) ?_
        refine lv_bipush (v := 32) hx hb dL_act_263 (by decide) ?_
        refine lv_icmp_ge (tgt := 310) hx hb dL_act_265 (by decide) (fun c_6 => absurd c_6 k5) (fun c_6 => ?_)
        refine lv_aload_n hx hb dL_act_268 rfl (lv_at hl 4 rfl) ?_
        refine lv_iconst (v := 0) hx hb dL_act_269 (by decide) ?_
        refine lv_iload hx hb dL_act_270 (lv_at hl 2 rfl) ?_
        refine lv_iload_n hx hb dL_act_272 rfl (lv_at hl 5 rfl) ?_
        refine lv_bipush (v := 10) hx hb dL_act_273 (by decide) ?_
        refine lv_ishr hx hb dL_act_275 ?_
        refine lv_iload_n hx hb dL_act_276 rfl (lv_at hl 0 rfl) ?_
        refine lv_if_eq (tgt := 285) hx hb dL_act_277 (by decide) (fun c_7 => absurd c_7 ho) (fun c_7 => ?_)
        refine lv_bipush (v := 12) hx hb dL_act_280 (by decide) ?_
        refine lv_goto (tgt := 287) hx hb dL_act_282 (by decide) ?_
        refine rdS (As := [.int (lSh v 10), .int 12]) (rest := [.int letter, .int 0, .ref (aa 0)]) ⟨hx, hb, hml, hown, hts⟩ (c_L_low l D z q (lSh v 10) 12 (by decide)) (va_cwS 2 hts gL_act_L_low rfl rfl rfl hd_L_low ⟨Nat.le_of_ble_eq_true rfl, Nat.le_of_ble_eq_true rfl⟩) hE hS hA hP [] rfl rfl hl.1 rfl (Nat.le_of_ble_eq_true rfl) dL_act_287 ⟨(by show 0 + 0 ≤ 6; omega), (by show 0 + 0 ≤ 36; omega)⟩ ?_
        refine lv_iload_n hx hb dL_act_290 rfl (lv_at hl 5 rfl) ?_
        refine lv_bipush (v := 14) hx hb dL_act_291 (by decide) ?_
        refine lv_ishr hx hb dL_act_293 ?_
        refine lv_iload_n hx hb dL_act_294 rfl (lv_at hl 0 rfl) ?_
        refine lv_if_eq (tgt := 302) hx hb dL_act_295 (by decide) (fun c_8 => absurd c_8 ho) (fun c_8 => ?_)
        refine lv_iconst (v := 5) hx hb dL_act_298 (by decide) ?_
        refine lv_goto (tgt := 303) hx hb dL_act_299 (by decide) ?_
        refine rdS (As := [.int (lSh v 14), .int 5]) (rest := [.int (lLow (lSh v 10) 12), .int letter, .int 0, .ref (aa 0)]) ⟨hx, hb, hml, hown, hts⟩ (c_L_low l D z q (lSh v 14) 5 (by decide)) (va_cwS 2 hts gL_act_L_low rfl rfl rfl hd_L_low ⟨Nat.le_of_ble_eq_true rfl, Nat.le_of_ble_eq_true rfl⟩) hE hS hA hP [] rfl rfl hl.1 rfl (Nat.le_of_ble_eq_true rfl) dL_act_303 ⟨(by show 0 + 0 ≤ 6; omega), (by show 0 + 0 ≤ 36; omega)⟩ ?_
        refine hwS (As := [.ref (aa 0), .int 0, .int letter, .int (lLow (lSh v 10) 12), .int (lLow (lSh v 14) 5)]) (rest := []) ⟨hx, hb, hml, hown, hts⟩ (c_L_does_0_1 l D z q (aa 0) (aa 1) (aa 6) (aa 15) (aa 17) (aa 22) (aa 25) (aa 27) dy (aa 2) (aa 3) (aa 4) (aa 5) pl lo letter (lLow (lSh v 10) 12) (lLow (lSh v 14) 5) H.size e0 e1 hlt) (vx_cwSW 5 hts gL_act_L_does rfl rfl rfl hd_L_does ⟨Nat.le_of_ble_eq_true rfl, Nat.le_of_ble_eq_true rfl⟩) hE hS hA hP hD [0, 1, 2, 3, 4, 5] rfl rfl rfl rfl hl.1 rfl (Nat.le_of_ble_eq_true rfl) dL_act_306 ⟨(by show 0 + 3 ≤ 6; omega), (by show 0 + 18 ≤ 36; omega)⟩ (fun H locs hP hD hS => ?_)
        have hP : va_P D vwCl [((aa 0), .inr (6, [.ref (aa 1), .ref (aa 6), .ref (aa 15), .ref (aa 17), .ref (aa 22), .ref (aa 25), .ref (aa 27), .int dy])), ((aa 1), .inr (0, [.ref (aa 2), .ref (aa 4)])), ((aa 2), .inr (1, [.ref (aa 3)])), ((aa 3), .inl (z 0, 26, .inl pl)), ((aa 4), .inr (1, [.ref (aa 5)])), ((aa 5), .inl (z 0, 30, .inl lo)), ((aa 6), .inr (2, [.ref (aa 7), .ref (aa 9), .ref (aa 11), .ref (aa 13), .int wt, .int wh])), ((aa 7), .inr (1, [.ref (aa 8)])), ((aa 8), .inl (z 0, 26, .inl ct)), ((aa 9), .inr (1, [.ref (aa 10)])), ((aa 10), .inl (z 0, 26, .inl ti)), ((aa 11), .inr (1, [.ref (aa 12)])), ((aa 12), .inl (z 0, 26, .inl sh)), ((aa 13), .inr (1, [.ref (aa 14)])), ((aa 14), .inl (z 0, 676, .inl pr)), ((aa 15), .inr (4, [.ref (aa 16), .ref (aa 6)])), ((aa 16), .inl (z 1, 26, .inl ia)), ((aa 17), .inr (3, [.ref (aa 18), .ref (aa 20), .int zz, .int po, .int me, .int ml])), ((aa 18), .inr (1, [.ref (aa 19)])), ((aa 19), .inl (z 0, 40, .inl lt)), ((aa 20), .inr (1, [.ref (aa 21)])), ((aa 21), .inl (z 0, 40, .inl ty)), ((aa 22), .inr (5, [.ref (aa 23), .int sn])), ((aa 23), .inr (1, [.ref (aa 24)])), ((aa 24), .inl (z 0, 100, .inl kp)), ((aa 25), .inr (1, [.ref (aa 26)])), ((aa 26), .inl (z 0, 5, .inl ek)), ((aa 27), .inr (1, [.ref (aa 28)])), ((aa 28), .inl (z 0, 8, .inl ef))] H := hP
        have hD : va_D A [((aa 0), .inr (6, [.ref (aa 1), .ref (aa 6), .ref (aa 15), .ref (aa 17), .ref (aa 22), .ref (aa 25), .ref (aa 27), .int dy])), ((aa 1), .inr (0, [.ref (aa 2), .ref (aa 4)])), ((aa 2), .inr (1, [.ref (aa 3)])), ((aa 3), .inl (z 0, 26, .inl pl)), ((aa 4), .inr (1, [.ref (aa 5)])), ((aa 5), .inl (z 0, 30, .inl lo)), ((aa 6), .inr (2, [.ref (aa 7), .ref (aa 9), .ref (aa 11), .ref (aa 13), .int wt, .int wh])), ((aa 7), .inr (1, [.ref (aa 8)])), ((aa 8), .inl (z 0, 26, .inl ct)), ((aa 9), .inr (1, [.ref (aa 10)])), ((aa 10), .inl (z 0, 26, .inl ti)), ((aa 11), .inr (1, [.ref (aa 12)])), ((aa 12), .inl (z 0, 26, .inl sh)), ((aa 13), .inr (1, [.ref (aa 14)])), ((aa 14), .inl (z 0, 676, .inl pr)), ((aa 15), .inr (4, [.ref (aa 16), .ref (aa 6)])), ((aa 16), .inl (z 1, 26, .inl ia)), ((aa 17), .inr (3, [.ref (aa 18), .ref (aa 20), .int zz, .int po, .int me, .int ml])), ((aa 18), .inr (1, [.ref (aa 19)])), ((aa 19), .inl (z 0, 40, .inl lt)), ((aa 20), .inr (1, [.ref (aa 21)])), ((aa 21), .inl (z 0, 40, .inl ty)), ((aa 22), .inr (5, [.ref (aa 23), .int sn])), ((aa 23), .inr (1, [.ref (aa 24)])), ((aa 24), .inl (z 0, 100, .inl kp)), ((aa 25), .inr (1, [.ref (aa 26)])), ((aa 26), .inl (z 0, 5, .inl ek)), ((aa 27), .inr (1, [.ref (aa 28)])), ((aa 28), .inl (z 0, 8, .inl ef))] := hD
        exact wr_i hx hb hr hlocks hP hD hS dL_act_309 rfl rfl (by omega) (by omega)
      · by_cases e2 : bW (lLow (lSh v 14) 5) 0 2 = 0
        · refine ⟨(pl, lo, ct, ti, sh, pr, ia, lt, ty, kp, ek, ef, wt, wh, zz, po, me, ml, sn, dy), -99999, CI_mono hI, fun _ => rfl, ?_⟩
          intro p l e s m below meth c D z q aa A H locs G hP hD hS ls hl
          obtain ⟨hx, hb, hr, hml, hts, hown, hlocks, hE, hA, hlt⟩ := G
          have hP : va_P D vwCl (coL z aa pl lo ct ti sh pr ia lt ty kp ek ef wt wh zz po me ml sn dy) H := hP
          have hD : va_D A (coL z aa pl lo ct ti sh pr ia lt ty kp ek ef wt wh zz po me ml sn dy) := hD
          refine lv_iload_n hx hb dL_act_114 rfl (lv_at hl 1 rfl) ?_
          refine lv_bipush (v := 6) hx hb dL_act_115 (by decide) ?_
          refine lv_icmp_ge (tgt := 130) hx hb dL_act_117 (by decide) (fun c_1 => ?_) (fun c_1 => absurd k0 c_1)
          refine lv_iload_n hx hb dL_act_130 rfl (lv_at hl 1 rfl) ?_
          refine lv_bipush (v := 20) hx hb dL_act_131 (by decide) ?_
          refine lv_icmp_ge (tgt := 190) hx hb dL_act_133 (by decide) (fun c_2 => ?_) (fun c_2 => absurd k1 c_2)
          refine lv_iload_n hx hb dL_act_190 rfl (lv_at hl 1 rfl) ?_
          refine lv_bipush (v := 23) hx hb dL_act_191 (by decide) ?_
          refine lv_icmp_ge (tgt := 206) hx hb dL_act_193 (by decide) (fun c_3 => ?_) (fun c_3 => absurd k2 c_3)
          refine lv_iload_n hx hb dL_act_206 rfl (lv_at hl 1 rfl) ?_
          refine lv_bipush (v := 25) hx hb dL_act_207 (by decide) ?_
          refine lv_icmp_ge (tgt := 247) hx hb dL_act_209 (by decide) (fun c_4 => ?_) (fun c_4 => absurd k3 c_4)
          refine lv_iload_n hx hb dL_act_247 rfl (lv_at hl 1 rfl) ?_
          refine lv_bipush (v := 30) hx hb dL_act_248 (by decide) ?_
          refine lv_icmp_ge (tgt := 262) hx hb dL_act_250 (by decide) (fun c_5 => ?_) (fun c_5 => absurd k4 c_5)
          refine lv_iload_n hx hb dL_act_262 rfl (lv_at hl 1 rfl) ?_
          refine lv_bipush (v := 32) hx hb dL_act_263 (by decide) ?_
          refine lv_icmp_ge (tgt := 310) hx hb dL_act_265 (by decide) (fun c_6 => absurd c_6 k5) (fun c_6 => ?_)
          refine lv_aload_n hx hb dL_act_268 rfl (lv_at hl 4 rfl) ?_
          refine lv_iconst (v := 0) hx hb dL_act_269 (by decide) ?_
          refine lv_iload hx hb dL_act_270 (lv_at hl 2 rfl) ?_
          refine lv_iload_n hx hb dL_act_272 rfl (lv_at hl 5 rfl) ?_
          refine lv_bipush (v := 10) hx hb dL_act_273 (by decide) ?_
          refine lv_ishr hx hb dL_act_275 ?_
          refine lv_iload_n hx hb dL_act_276 rfl (lv_at hl 0 rfl) ?_
          refine lv_if_eq (tgt := 285) hx hb dL_act_277 (by decide) (fun c_7 => absurd c_7 ho) (fun c_7 => ?_)
          refine lv_bipush (v := 12) hx hb dL_act_280 (by decide) ?_
          refine lv_goto (tgt := 287) hx hb dL_act_282 (by decide) ?_
          refine rdS (As := [.int (lSh v 10), .int 12]) (rest := [.int letter, .int 0, .ref (aa 0)]) ⟨hx, hb, hml, hown, hts⟩ (c_L_low l D z q (lSh v 10) 12 (by decide)) (va_cwS 2 hts gL_act_L_low rfl rfl rfl hd_L_low ⟨Nat.le_of_ble_eq_true rfl, Nat.le_of_ble_eq_true rfl⟩) hE hS hA hP [] rfl rfl hl.1 rfl (Nat.le_of_ble_eq_true rfl) dL_act_287 ⟨(by show 0 + 0 ≤ 6; omega), (by show 0 + 0 ≤ 36; omega)⟩ ?_
          refine lv_iload_n hx hb dL_act_290 rfl (lv_at hl 5 rfl) ?_
          refine lv_bipush (v := 14) hx hb dL_act_291 (by decide) ?_
          refine lv_ishr hx hb dL_act_293 ?_
          refine lv_iload_n hx hb dL_act_294 rfl (lv_at hl 0 rfl) ?_
          refine lv_if_eq (tgt := 302) hx hb dL_act_295 (by decide) (fun c_8 => absurd c_8 ho) (fun c_8 => ?_)
          refine lv_iconst (v := 5) hx hb dL_act_298 (by decide) ?_
          refine lv_goto (tgt := 303) hx hb dL_act_299 (by decide) ?_
          refine rdS (As := [.int (lSh v 14), .int 5]) (rest := [.int (lLow (lSh v 10) 12), .int letter, .int 0, .ref (aa 0)]) ⟨hx, hb, hml, hown, hts⟩ (c_L_low l D z q (lSh v 14) 5 (by decide)) (va_cwS 2 hts gL_act_L_low rfl rfl rfl hd_L_low ⟨Nat.le_of_ble_eq_true rfl, Nat.le_of_ble_eq_true rfl⟩) hE hS hA hP [] rfl rfl hl.1 rfl (Nat.le_of_ble_eq_true rfl) dL_act_303 ⟨(by show 0 + 0 ≤ 6; omega), (by show 0 + 0 ≤ 36; omega)⟩ ?_
          refine hwS (As := [.ref (aa 0), .int 0, .int letter, .int (lLow (lSh v 10) 12), .int (lLow (lSh v 14) 5)]) (rest := []) ⟨hx, hb, hml, hown, hts⟩ (c_L_does_0_2 l D z q (aa 0) (aa 1) (aa 6) (aa 15) (aa 17) (aa 22) (aa 25) (aa 27) dy (aa 2) (aa 3) (aa 4) (aa 5) pl lo letter (lLow (lSh v 10) 12) (lLow (lSh v 14) 5) H.size e0 e1 e2 hlt) (vx_cwSW 5 hts gL_act_L_does rfl rfl rfl hd_L_does ⟨Nat.le_of_ble_eq_true rfl, Nat.le_of_ble_eq_true rfl⟩) hE hS hA hP hD [0, 1, 2, 3, 4, 5] rfl rfl rfl rfl hl.1 rfl (Nat.le_of_ble_eq_true rfl) dL_act_306 ⟨(by show 0 + 3 ≤ 6; omega), (by show 0 + 18 ≤ 36; omega)⟩ (fun H locs hP hD hS => ?_)
          have hP : va_P D vwCl [((aa 0), .inr (6, [.ref (aa 1), .ref (aa 6), .ref (aa 15), .ref (aa 17), .ref (aa 22), .ref (aa 25), .ref (aa 27), .int dy])), ((aa 1), .inr (0, [.ref (aa 2), .ref (aa 4)])), ((aa 2), .inr (1, [.ref (aa 3)])), ((aa 3), .inl (z 0, 26, .inl pl)), ((aa 4), .inr (1, [.ref (aa 5)])), ((aa 5), .inl (z 0, 30, .inl lo)), ((aa 6), .inr (2, [.ref (aa 7), .ref (aa 9), .ref (aa 11), .ref (aa 13), .int wt, .int wh])), ((aa 7), .inr (1, [.ref (aa 8)])), ((aa 8), .inl (z 0, 26, .inl ct)), ((aa 9), .inr (1, [.ref (aa 10)])), ((aa 10), .inl (z 0, 26, .inl ti)), ((aa 11), .inr (1, [.ref (aa 12)])), ((aa 12), .inl (z 0, 26, .inl sh)), ((aa 13), .inr (1, [.ref (aa 14)])), ((aa 14), .inl (z 0, 676, .inl pr)), ((aa 15), .inr (4, [.ref (aa 16), .ref (aa 6)])), ((aa 16), .inl (z 1, 26, .inl ia)), ((aa 17), .inr (3, [.ref (aa 18), .ref (aa 20), .int zz, .int po, .int me, .int ml])), ((aa 18), .inr (1, [.ref (aa 19)])), ((aa 19), .inl (z 0, 40, .inl lt)), ((aa 20), .inr (1, [.ref (aa 21)])), ((aa 21), .inl (z 0, 40, .inl ty)), ((aa 22), .inr (5, [.ref (aa 23), .int sn])), ((aa 23), .inr (1, [.ref (aa 24)])), ((aa 24), .inl (z 0, 100, .inl kp)), ((aa 25), .inr (1, [.ref (aa 26)])), ((aa 26), .inl (z 0, 5, .inl ek)), ((aa 27), .inr (1, [.ref (aa 28)])), ((aa 28), .inl (z 0, 8, .inl ef))] H := hP
          have hD : va_D A [((aa 0), .inr (6, [.ref (aa 1), .ref (aa 6), .ref (aa 15), .ref (aa 17), .ref (aa 22), .ref (aa 25), .ref (aa 27), .int dy])), ((aa 1), .inr (0, [.ref (aa 2), .ref (aa 4)])), ((aa 2), .inr (1, [.ref (aa 3)])), ((aa 3), .inl (z 0, 26, .inl pl)), ((aa 4), .inr (1, [.ref (aa 5)])), ((aa 5), .inl (z 0, 30, .inl lo)), ((aa 6), .inr (2, [.ref (aa 7), .ref (aa 9), .ref (aa 11), .ref (aa 13), .int wt, .int wh])), ((aa 7), .inr (1, [.ref (aa 8)])), ((aa 8), .inl (z 0, 26, .inl ct)), ((aa 9), .inr (1, [.ref (aa 10)])), ((aa 10), .inl (z 0, 26, .inl ti)), ((aa 11), .inr (1, [.ref (aa 12)])), ((aa 12), .inl (z 0, 26, .inl sh)), ((aa 13), .inr (1, [.ref (aa 14)])), ((aa 14), .inl (z 0, 676, .inl pr)), ((aa 15), .inr (4, [.ref (aa 16), .ref (aa 6)])), ((aa 16), .inl (z 1, 26, .inl ia)), ((aa 17), .inr (3, [.ref (aa 18), .ref (aa 20), .int zz, .int po, .int me, .int ml])), ((aa 18), .inr (1, [.ref (aa 19)])), ((aa 19), .inl (z 0, 40, .inl lt)), ((aa 20), .inr (1, [.ref (aa 21)])), ((aa 21), .inl (z 0, 40, .inl ty)), ((aa 22), .inr (5, [.ref (aa 23), .int sn])), ((aa 23), .inr (1, [.ref (aa 24)])), ((aa 24), .inl (z 0, 100, .inl kp)), ((aa 25), .inr (1, [.ref (aa 26)])), ((aa 26), .inl (z 0, 5, .inl ek)), ((aa 27), .inr (1, [.ref (aa 28)])), ((aa 28), .inl (z 0, 8, .inl ef))] := hD
          exact wr_i hx hb hr hlocks hP hD hS dL_act_309 rfl rfl (by omega) (by omega)
        · refine ⟨(bMovP pl lo letter ((lLow (lSh v 14) 5) * 10 + (lLow (lSh v 10) 12)), bMovL pl lo letter ((lLow (lSh v 14) 5) * 10 + (lLow (lSh v 10) 12)), ct, ti, sh, pr, ia, lt, ty, kp, ek, ef, wt, wh, zz, po, me, ml, sn, dy), cAt 30 lo ((lLow (lSh v 14) 5) * 10 + (lLow (lSh v 10) 12)), (CI_put hI e0 e1 e2).1, fun h => absurd h (CI_put hI e0 e1 e2).2, ?_⟩
          intro p l e s m below meth c D z q aa A H locs G hP hD hS ls hl
          obtain ⟨hx, hb, hr, hml, hts, hown, hlocks, hE, hA, hlt⟩ := G
          have hP : va_P D vwCl (coL z aa pl lo ct ti sh pr ia lt ty kp ek ef wt wh zz po me ml sn dy) H := hP
          have hD : va_D A (coL z aa pl lo ct ti sh pr ia lt ty kp ek ef wt wh zz po me ml sn dy) := hD
          refine lv_iload_n hx hb dL_act_114 rfl (lv_at hl 1 rfl) ?_
          refine lv_bipush (v := 6) hx hb dL_act_115 (by decide) ?_
          refine lv_icmp_ge (tgt := 130) hx hb dL_act_117 (by decide) (fun c_1 => ?_) (fun c_1 => absurd k0 c_1)
          refine lv_iload_n hx hb dL_act_130 rfl (lv_at hl 1 rfl) ?_
          refine lv_bipush (v := 20) hx hb dL_act_131 (by decide) ?_
          refine lv_icmp_ge (tgt := 190) hx hb dL_act_133 (by decide) (fun c_2 => ?_) (fun c_2 => absurd k1 c_2)
          refine lv_iload_n hx hb dL_act_190 rfl (lv_at hl 1 rfl) ?_
          refine lv_bipush (v := 23) hx hb dL_act_191 (by decide) ?_
          refine lv_icmp_ge (tgt := 206) hx hb dL_act_193 (by decide) (fun c_3 => ?_) (fun c_3 => absurd k2 c_3)
          refine lv_iload_n hx hb dL_act_206 rfl (lv_at hl 1 rfl) ?_
          refine lv_bipush (v := 25) hx hb dL_act_207 (by decide) ?_
          refine lv_icmp_ge (tgt := 247) hx hb dL_act_209 (by decide) (fun c_4 => ?_) (fun c_4 => absurd k3 c_4)
          refine lv_iload_n hx hb dL_act_247 rfl (lv_at hl 1 rfl) ?_
          refine lv_bipush (v := 30) hx hb dL_act_248 (by decide) ?_
          refine lv_icmp_ge (tgt := 262) hx hb dL_act_250 (by decide) (fun c_5 => ?_) (fun c_5 => absurd k4 c_5)
          refine lv_iload_n hx hb dL_act_262 rfl (lv_at hl 1 rfl) ?_
          refine lv_bipush (v := 32) hx hb dL_act_263 (by decide) ?_
          refine lv_icmp_ge (tgt := 310) hx hb dL_act_265 (by decide) (fun c_6 => absurd c_6 k5) (fun c_6 => ?_)
          refine lv_aload_n hx hb dL_act_268 rfl (lv_at hl 4 rfl) ?_
          refine lv_iconst (v := 0) hx hb dL_act_269 (by decide) ?_
          refine lv_iload hx hb dL_act_270 (lv_at hl 2 rfl) ?_
          refine lv_iload_n hx hb dL_act_272 rfl (lv_at hl 5 rfl) ?_
          refine lv_bipush (v := 10) hx hb dL_act_273 (by decide) ?_
          refine lv_ishr hx hb dL_act_275 ?_
          refine lv_iload_n hx hb dL_act_276 rfl (lv_at hl 0 rfl) ?_
          refine lv_if_eq (tgt := 285) hx hb dL_act_277 (by decide) (fun c_7 => absurd c_7 ho) (fun c_7 => ?_)
          refine lv_bipush (v := 12) hx hb dL_act_280 (by decide) ?_
          refine lv_goto (tgt := 287) hx hb dL_act_282 (by decide) ?_
          refine rdS (As := [.int (lSh v 10), .int 12]) (rest := [.int letter, .int 0, .ref (aa 0)]) ⟨hx, hb, hml, hown, hts⟩ (c_L_low l D z q (lSh v 10) 12 (by decide)) (va_cwS 2 hts gL_act_L_low rfl rfl rfl hd_L_low ⟨Nat.le_of_ble_eq_true rfl, Nat.le_of_ble_eq_true rfl⟩) hE hS hA hP [] rfl rfl hl.1 rfl (Nat.le_of_ble_eq_true rfl) dL_act_287 ⟨(by show 0 + 0 ≤ 6; omega), (by show 0 + 0 ≤ 36; omega)⟩ ?_
          refine lv_iload_n hx hb dL_act_290 rfl (lv_at hl 5 rfl) ?_
          refine lv_bipush (v := 14) hx hb dL_act_291 (by decide) ?_
          refine lv_ishr hx hb dL_act_293 ?_
          refine lv_iload_n hx hb dL_act_294 rfl (lv_at hl 0 rfl) ?_
          refine lv_if_eq (tgt := 302) hx hb dL_act_295 (by decide) (fun c_8 => absurd c_8 ho) (fun c_8 => ?_)
          refine lv_iconst (v := 5) hx hb dL_act_298 (by decide) ?_
          refine lv_goto (tgt := 303) hx hb dL_act_299 (by decide) ?_
          refine rdS (As := [.int (lSh v 14), .int 5]) (rest := [.int (lLow (lSh v 10) 12), .int letter, .int 0, .ref (aa 0)]) ⟨hx, hb, hml, hown, hts⟩ (c_L_low l D z q (lSh v 14) 5 (by decide)) (va_cwS 2 hts gL_act_L_low rfl rfl rfl hd_L_low ⟨Nat.le_of_ble_eq_true rfl, Nat.le_of_ble_eq_true rfl⟩) hE hS hA hP [] rfl rfl hl.1 rfl (Nat.le_of_ble_eq_true rfl) dL_act_303 ⟨(by show 0 + 0 ≤ 6; omega), (by show 0 + 0 ≤ 36; omega)⟩ ?_
          refine hwS (As := [.ref (aa 0), .int 0, .int letter, .int (lLow (lSh v 10) 12), .int (lLow (lSh v 14) 5)]) (rest := []) ⟨hx, hb, hml, hown, hts⟩ (c_L_does_0_3 l D z q (aa 0) (aa 1) (aa 6) (aa 15) (aa 17) (aa 22) (aa 25) (aa 27) dy (aa 2) (aa 3) (aa 4) (aa 5) pl lo letter (lLow (lSh v 10) 12) (lLow (lSh v 14) 5) H.size e0 e1 e2 hlt) (vx_cwSW 5 hts gL_act_L_does rfl rfl rfl hd_L_does ⟨Nat.le_of_ble_eq_true rfl, Nat.le_of_ble_eq_true rfl⟩) hE hS hA hP hD [0, 1, 2, 3, 4, 5] rfl rfl rfl rfl hl.1 rfl (Nat.le_of_ble_eq_true rfl) dL_act_306 ⟨(by show 0 + 3 ≤ 6; omega), (by show 0 + 18 ≤ 36; omega)⟩ (fun H locs hP hD hS => ?_)
          have hP : va_P D vwCl [((aa 0), .inr (6, [.ref (aa 1), .ref (aa 6), .ref (aa 15), .ref (aa 17), .ref (aa 22), .ref (aa 25), .ref (aa 27), .int dy])), ((aa 1), .inr (0, [.ref (aa 2), .ref (aa 4)])), ((aa 2), .inr (1, [.ref (aa 3)])), ((aa 3), .inl (z 0, 26, .inl (bMovP pl lo letter ((lLow (lSh v 14) 5) * 10 + (lLow (lSh v 10) 12))))), ((aa 4), .inr (1, [.ref (aa 5)])), ((aa 5), .inl (z 0, 30, .inl (bMovL pl lo letter ((lLow (lSh v 14) 5) * 10 + (lLow (lSh v 10) 12))))), ((aa 6), .inr (2, [.ref (aa 7), .ref (aa 9), .ref (aa 11), .ref (aa 13), .int wt, .int wh])), ((aa 7), .inr (1, [.ref (aa 8)])), ((aa 8), .inl (z 0, 26, .inl ct)), ((aa 9), .inr (1, [.ref (aa 10)])), ((aa 10), .inl (z 0, 26, .inl ti)), ((aa 11), .inr (1, [.ref (aa 12)])), ((aa 12), .inl (z 0, 26, .inl sh)), ((aa 13), .inr (1, [.ref (aa 14)])), ((aa 14), .inl (z 0, 676, .inl pr)), ((aa 15), .inr (4, [.ref (aa 16), .ref (aa 6)])), ((aa 16), .inl (z 1, 26, .inl ia)), ((aa 17), .inr (3, [.ref (aa 18), .ref (aa 20), .int zz, .int po, .int me, .int ml])), ((aa 18), .inr (1, [.ref (aa 19)])), ((aa 19), .inl (z 0, 40, .inl lt)), ((aa 20), .inr (1, [.ref (aa 21)])), ((aa 21), .inl (z 0, 40, .inl ty)), ((aa 22), .inr (5, [.ref (aa 23), .int sn])), ((aa 23), .inr (1, [.ref (aa 24)])), ((aa 24), .inl (z 0, 100, .inl kp)), ((aa 25), .inr (1, [.ref (aa 26)])), ((aa 26), .inl (z 0, 5, .inl ek)), ((aa 27), .inr (1, [.ref (aa 28)])), ((aa 28), .inl (z 0, 8, .inl ef))] H := hP
          have hD : va_D A [((aa 0), .inr (6, [.ref (aa 1), .ref (aa 6), .ref (aa 15), .ref (aa 17), .ref (aa 22), .ref (aa 25), .ref (aa 27), .int dy])), ((aa 1), .inr (0, [.ref (aa 2), .ref (aa 4)])), ((aa 2), .inr (1, [.ref (aa 3)])), ((aa 3), .inl (z 0, 26, .inl (bMovP pl lo letter ((lLow (lSh v 14) 5) * 10 + (lLow (lSh v 10) 12))))), ((aa 4), .inr (1, [.ref (aa 5)])), ((aa 5), .inl (z 0, 30, .inl (bMovL pl lo letter ((lLow (lSh v 14) 5) * 10 + (lLow (lSh v 10) 12))))), ((aa 6), .inr (2, [.ref (aa 7), .ref (aa 9), .ref (aa 11), .ref (aa 13), .int wt, .int wh])), ((aa 7), .inr (1, [.ref (aa 8)])), ((aa 8), .inl (z 0, 26, .inl ct)), ((aa 9), .inr (1, [.ref (aa 10)])), ((aa 10), .inl (z 0, 26, .inl ti)), ((aa 11), .inr (1, [.ref (aa 12)])), ((aa 12), .inl (z 0, 26, .inl sh)), ((aa 13), .inr (1, [.ref (aa 14)])), ((aa 14), .inl (z 0, 676, .inl pr)), ((aa 15), .inr (4, [.ref (aa 16), .ref (aa 6)])), ((aa 16), .inl (z 1, 26, .inl ia)), ((aa 17), .inr (3, [.ref (aa 18), .ref (aa 20), .int zz, .int po, .int me, .int ml])), ((aa 18), .inr (1, [.ref (aa 19)])), ((aa 19), .inl (z 0, 40, .inl lt)), ((aa 20), .inr (1, [.ref (aa 21)])), ((aa 21), .inl (z 0, 40, .inl ty)), ((aa 22), .inr (5, [.ref (aa 23), .int sn])), ((aa 23), .inr (1, [.ref (aa 24)])), ((aa 24), .inl (z 0, 100, .inl kp)), ((aa 25), .inr (1, [.ref (aa 26)])), ((aa 26), .inl (z 0, 5, .inl ek)), ((aa 27), .inr (1, [.ref (aa 28)])), ((aa 28), .inl (z 0, 8, .inl ef))] := hD
          exact wr_i hx hb hr hlocks hP hD hS dL_act_309 rfl rfl (by omega) (by omega)
set_option maxHeartbeats 8000000 in
set_option maxRecDepth 100000 in
theorem act_t6 {N : Nat} {pl lo ct ti sh pr ia lt ty kp ek ef : Fn} {wt wh zz po me ml sn dy : Int32} (hI : CI N pl lo ct ti sh pr ia lt ty kp ek ef wt wh zz po me ml sn dy) (hN : N < 1000) (v odd how letter millis : Int32) (k0 : 6 ≤ how) (k1 : 20 ≤ how) (k2 : 23 ≤ how) (k3 : 25 ≤ how) (k4 : 30 ≤ how) (k5 : 32 ≤ how) (k6 : ¬ 35 ≤ how) : ∃ (S9 : Co) (a : Int32), CIN (N + 1) S9 ∧ (a = -99999 → S9 = (pl, lo, ct, ti, sh, pr, ia, lt, ty, kp, ek, ef, wt, wh, zz, po, me, ml, sn, dy)) ∧ ACTX (pl, lo, ct, ti, sh, pr, ia, lt, ty, kp, ek, ef, wt, wh, zz, po, me, ml, sn, dy) S9 a v odd how letter millis 114 := by
  have ⟨zn, hzz, hz40, hlt9, ps, hpo, hps, hty9⟩ := hI.1.2.2.2.1
  by_cases hw : how = 32
  · by_cases ho : odd = 0
    · by_cases e0 : bW 5000 1 5000 = 0
      · refine ⟨(pl, lo, ct, ti, sh, pr, ia, lt, ty, kp, ek, ef, wt, wh, zz, po, me, ml, sn, dy), -99999, CI_mono hI, fun _ => rfl, ?_⟩
        intro p l e s m below meth c D z q aa A H locs G hP hD hS ls hl
        obtain ⟨hx, hb, hr, hml, hts, hown, hlocks, hE, hA, hlt⟩ := G
        have hP : va_P D vwCl (coL z aa pl lo ct ti sh pr ia lt ty kp ek ef wt wh zz po me ml sn dy) H := hP
        have hD : va_D A (coL z aa pl lo ct ti sh pr ia lt ty kp ek ef wt wh zz po me ml sn dy) := hD
        refine lv_iload_n hx hb dL_act_114 rfl (lv_at hl 1 rfl) ?_
        refine lv_bipush (v := 6) hx hb dL_act_115 (by decide) ?_
        refine lv_icmp_ge (tgt := 130) hx hb dL_act_117 (by decide) (fun c_1 => ?_) (fun c_1 => absurd k0 c_1)
        refine lv_iload_n hx hb dL_act_130 rfl (lv_at hl 1 rfl) ?_
        refine lv_bipush (v := 20) hx hb dL_act_131 (by decide) ?_
        refine lv_icmp_ge (tgt := 190) hx hb dL_act_133 (by decide) (fun c_2 => ?_) (fun c_2 => absurd k1 c_2)
        refine lv_iload_n hx hb dL_act_190 rfl (lv_at hl 1 rfl) ?_
        refine lv_bipush (v := 23) hx hb dL_act_191 (by decide) ?_
        refine lv_icmp_ge (tgt := 206) hx hb dL_act_193 (by decide) (fun c_3 => ?_) (fun c_3 => absurd k2 c_3)
        refine lv_iload_n hx hb dL_act_206 rfl (lv_at hl 1 rfl) ?_
        refine lv_bipush (v := 25) hx hb dL_act_207 (by decide) ?_
        refine lv_icmp_ge (tgt := 247) hx hb dL_act_209 (by decide) (fun c_4 => ?_) (fun c_4 => absurd k3 c_4)
        refine lv_iload_n hx hb dL_act_247 rfl (lv_at hl 1 rfl) ?_
        refine lv_bipush (v := 30) hx hb dL_act_248 (by decide) ?_
        refine lv_icmp_ge (tgt := 262) hx hb dL_act_250 (by decide) (fun c_5 => ?_) (fun c_5 => absurd k4 c_5)
        refine lv_iload_n hx hb dL_act_262 rfl (lv_at hl 1 rfl) ?_
        refine lv_bipush (v := 32) hx hb dL_act_263 (by decide) ?_
        refine lv_icmp_ge (tgt := 310) hx hb dL_act_265 (by decide) (fun c_6 => ?_) (fun c_6 => absurd k5 c_6)
        refine lv_iload_n hx hb dL_act_310 rfl (lv_at hl 1 rfl) ?_
        refine lv_bipush (v := 35) hx hb dL_act_311 (by decide) ?_
        refine lv_icmp_ge (tgt := 360) hx hb dL_act_313 (by decide) (fun c_7 => absurd c_7 k6) (fun c_7 => ?_)
        refine lv_aload_n hx hb dL_act_316 rfl (lv_at hl 4 rfl) ?_
        refine lv_bipush (v := 6) hx hb dL_act_317 (by decide) ?_
        refine lv_iload_n hx hb dL_act_319 rfl (lv_at hl 1 rfl) ?_
        refine lv_bipush (v := 32) hx hb dL_act_320 (by decide) ?_
        refine lv_icmp_ne (tgt := 331) hx hb dL_act_322 (by decide) (fun c_8 => absurd hw c_8) (fun c_8 => ?_)
        refine lv_sipush (v := 5000) hx hb dL_act_325 (by decide) ?_
        refine lv_goto (tgt := 333) hx hb dL_act_328 (by decide) ?_
        refine lv_iload_n hx hb dL_act_333 rfl (lv_at hl 5 rfl) ?_
        refine lv_bipush (v := 6) hx hb dL_act_334 (by decide) ?_
        refine lv_ishr hx hb dL_act_336 ?_
        refine lv_iload_n hx hb dL_act_337 rfl (lv_at hl 0 rfl) ?_
        refine lv_if_eq (tgt := 347) hx hb dL_act_338 (by decide) (fun c_9 => ?_) (fun c_9 => absurd ho c_9)
        refine lv_sipush (v := 10001) hx hb dL_act_347 (by decide) ?_
        refine rdS (As := [.int (lSh v 6), .int 10001]) (rest := [.int 5000, .int 6, .ref (aa 0)]) ⟨hx, hb, hml, hown, hts⟩ (c_L_low l D z q (lSh v 6) 10001 (by decide)) (va_cwS 2 hts gL_act_L_low rfl rfl rfl hd_L_low ⟨Nat.le_of_ble_eq_true rfl, Nat.le_of_ble_eq_true rfl⟩) hE hS hA hP [] rfl rfl hl.1 rfl (Nat.le_of_ble_eq_true rfl) dL_act_350 ⟨(by show 0 + 0 ≤ 6; omega), (by show 0 + 0 ≤ 36; omega)⟩ ?_
        refine lv_iconst (v := 0) hx hb dL_act_353 (by decide) ?_
        refine hwS (As := [.ref (aa 0), .int 6, .int 5000, .int (lLow (lSh v 6) 10001), .int 0]) (rest := []) ⟨hx, hb, hml, hown, hts⟩ (c_L_does_6_0 l D z q (aa 0) (aa 1) (aa 6) (aa 15) (aa 17) (aa 22) (aa 25) (aa 27) dy (aa 7) (aa 8) (aa 9) (aa 10) (aa 11) (aa 12) (aa 13) (aa 14) ct ti sh pr wt wh 5000 (lLow (lSh v 6) 10001) 0 H.size e0 hlt) (vx_cwSW 5 hts gL_act_L_does rfl rfl rfl hd_L_does ⟨Nat.le_of_ble_eq_true rfl, Nat.le_of_ble_eq_true rfl⟩) hE hS hA hP hD [0, 6, 7, 8, 9, 10, 11, 12, 13, 14] rfl rfl rfl rfl hl.1 rfl (Nat.le_of_ble_eq_true rfl) dL_act_354 ⟨(by show 0 + 3 ≤ 6; omega), (by show 0 + 18 ≤ 36; omega)⟩ (fun H locs hP hD hS => ?_)
        have hP : va_P D vwCl [((aa 0), .inr (6, [.ref (aa 1), .ref (aa 6), .ref (aa 15), .ref (aa 17), .ref (aa 22), .ref (aa 25), .ref (aa 27), .int dy])), ((aa 1), .inr (0, [.ref (aa 2), .ref (aa 4)])), ((aa 2), .inr (1, [.ref (aa 3)])), ((aa 3), .inl (z 0, 26, .inl pl)), ((aa 4), .inr (1, [.ref (aa 5)])), ((aa 5), .inl (z 0, 30, .inl lo)), ((aa 6), .inr (2, [.ref (aa 7), .ref (aa 9), .ref (aa 11), .ref (aa 13), .int wt, .int wh])), ((aa 7), .inr (1, [.ref (aa 8)])), ((aa 8), .inl (z 0, 26, .inl ct)), ((aa 9), .inr (1, [.ref (aa 10)])), ((aa 10), .inl (z 0, 26, .inl ti)), ((aa 11), .inr (1, [.ref (aa 12)])), ((aa 12), .inl (z 0, 26, .inl sh)), ((aa 13), .inr (1, [.ref (aa 14)])), ((aa 14), .inl (z 0, 676, .inl pr)), ((aa 15), .inr (4, [.ref (aa 16), .ref (aa 6)])), ((aa 16), .inl (z 1, 26, .inl ia)), ((aa 17), .inr (3, [.ref (aa 18), .ref (aa 20), .int zz, .int po, .int me, .int ml])), ((aa 18), .inr (1, [.ref (aa 19)])), ((aa 19), .inl (z 0, 40, .inl lt)), ((aa 20), .inr (1, [.ref (aa 21)])), ((aa 21), .inl (z 0, 40, .inl ty)), ((aa 22), .inr (5, [.ref (aa 23), .int sn])), ((aa 23), .inr (1, [.ref (aa 24)])), ((aa 24), .inl (z 0, 100, .inl kp)), ((aa 25), .inr (1, [.ref (aa 26)])), ((aa 26), .inl (z 0, 5, .inl ek)), ((aa 27), .inr (1, [.ref (aa 28)])), ((aa 28), .inl (z 0, 8, .inl ef))] H := hP
        have hD : va_D A [((aa 0), .inr (6, [.ref (aa 1), .ref (aa 6), .ref (aa 15), .ref (aa 17), .ref (aa 22), .ref (aa 25), .ref (aa 27), .int dy])), ((aa 1), .inr (0, [.ref (aa 2), .ref (aa 4)])), ((aa 2), .inr (1, [.ref (aa 3)])), ((aa 3), .inl (z 0, 26, .inl pl)), ((aa 4), .inr (1, [.ref (aa 5)])), ((aa 5), .inl (z 0, 30, .inl lo)), ((aa 6), .inr (2, [.ref (aa 7), .ref (aa 9), .ref (aa 11), .ref (aa 13), .int wt, .int wh])), ((aa 7), .inr (1, [.ref (aa 8)])), ((aa 8), .inl (z 0, 26, .inl ct)), ((aa 9), .inr (1, [.ref (aa 10)])), ((aa 10), .inl (z 0, 26, .inl ti)), ((aa 11), .inr (1, [.ref (aa 12)])), ((aa 12), .inl (z 0, 26, .inl sh)), ((aa 13), .inr (1, [.ref (aa 14)])), ((aa 14), .inl (z 0, 676, .inl pr)), ((aa 15), .inr (4, [.ref (aa 16), .ref (aa 6)])), ((aa 16), .inl (z 1, 26, .inl ia)), ((aa 17), .inr (3, [.ref (aa 18), .ref (aa 20), .int zz, .int po, .int me, .int ml])), ((aa 18), .inr (1, [.ref (aa 19)])), ((aa 19), .inl (z 0, 40, .inl lt)), ((aa 20), .inr (1, [.ref (aa 21)])), ((aa 21), .inl (z 0, 40, .inl ty)), ((aa 22), .inr (5, [.ref (aa 23), .int sn])), ((aa 23), .inr (1, [.ref (aa 24)])), ((aa 24), .inl (z 0, 100, .inl kp)), ((aa 25), .inr (1, [.ref (aa 26)])), ((aa 26), .inl (z 0, 5, .inl ek)), ((aa 27), .inr (1, [.ref (aa 28)])), ((aa 28), .inl (z 0, 8, .inl ef))] := hD
        refine lv_goto (tgt := 364) hx hb dL_act_357 (by decide) ?_
        exact wr_i hx hb hr hlocks hP hD hS dL_act_364 rfl rfl (by omega) (by omega)
      · by_cases e1 : bW (lLow (lSh v 6) 10001) 0 10000 = 0
        · refine ⟨(pl, lo, ct, ti, sh, pr, ia, lt, ty, kp, ek, ef, wt, wh, zz, po, me, ml, sn, dy), -99999, CI_mono hI, fun _ => rfl, ?_⟩
          intro p l e s m below meth c D z q aa A H locs G hP hD hS ls hl
          obtain ⟨hx, hb, hr, hml, hts, hown, hlocks, hE, hA, hlt⟩ := G
          have hP : va_P D vwCl (coL z aa pl lo ct ti sh pr ia lt ty kp ek ef wt wh zz po me ml sn dy) H := hP
          have hD : va_D A (coL z aa pl lo ct ti sh pr ia lt ty kp ek ef wt wh zz po me ml sn dy) := hD
          refine lv_iload_n hx hb dL_act_114 rfl (lv_at hl 1 rfl) ?_
          refine lv_bipush (v := 6) hx hb dL_act_115 (by decide) ?_
          refine lv_icmp_ge (tgt := 130) hx hb dL_act_117 (by decide) (fun c_1 => ?_) (fun c_1 => absurd k0 c_1)
          refine lv_iload_n hx hb dL_act_130 rfl (lv_at hl 1 rfl) ?_
          refine lv_bipush (v := 20) hx hb dL_act_131 (by decide) ?_
          refine lv_icmp_ge (tgt := 190) hx hb dL_act_133 (by decide) (fun c_2 => ?_) (fun c_2 => absurd k1 c_2)
          refine lv_iload_n hx hb dL_act_190 rfl (lv_at hl 1 rfl) ?_
          refine lv_bipush (v := 23) hx hb dL_act_191 (by decide) ?_
          refine lv_icmp_ge (tgt := 206) hx hb dL_act_193 (by decide) (fun c_3 => ?_) (fun c_3 => absurd k2 c_3)
          refine lv_iload_n hx hb dL_act_206 rfl (lv_at hl 1 rfl) ?_
          refine lv_bipush (v := 25) hx hb dL_act_207 (by decide) ?_
          refine lv_icmp_ge (tgt := 247) hx hb dL_act_209 (by decide) (fun c_4 => ?_) (fun c_4 => absurd k3 c_4)
          refine lv_iload_n hx hb dL_act_247 rfl (lv_at hl 1 rfl) ?_
          refine lv_bipush (v := 30) hx hb dL_act_248 (by decide) ?_
          refine lv_icmp_ge (tgt := 262) hx hb dL_act_250 (by decide) (fun c_5 => ?_) (fun c_5 => absurd k4 c_5)
          refine lv_iload_n hx hb dL_act_262 rfl (lv_at hl 1 rfl) ?_
          refine lv_bipush (v := 32) hx hb dL_act_263 (by decide) ?_
          refine lv_icmp_ge (tgt := 310) hx hb dL_act_265 (by decide) (fun c_6 => ?_) (fun c_6 => absurd k5 c_6)
          refine lv_iload_n hx hb dL_act_310 rfl (lv_at hl 1 rfl) ?_
          refine lv_bipush (v := 35) hx hb dL_act_311 (by decide) ?_
          refine lv_icmp_ge (tgt := 360) hx hb dL_act_313 (by decide) (fun c_7 => absurd c_7 k6) (fun c_7 => ?_)
          refine lv_aload_n hx hb dL_act_316 rfl (lv_at hl 4 rfl) ?_
          refine lv_bipush (v := 6) hx hb dL_act_317 (by decide) ?_
          refine lv_iload_n hx hb dL_act_319 rfl (lv_at hl 1 rfl) ?_
          refine lv_bipush (v := 32) hx hb dL_act_320 (by decide) ?_
          refine lv_icmp_ne (tgt := 331) hx hb dL_act_322 (by decide) (fun c_8 => absurd hw c_8) (fun c_8 => ?_)
          refine lv_sipush (v := 5000) hx hb dL_act_325 (by decide) ?_
          refine lv_goto (tgt := 333) hx hb dL_act_328 (by decide) ?_
          refine lv_iload_n hx hb dL_act_333 rfl (lv_at hl 5 rfl) ?_
          refine lv_bipush (v := 6) hx hb dL_act_334 (by decide) ?_
          refine lv_ishr hx hb dL_act_336 ?_
          refine lv_iload_n hx hb dL_act_337 rfl (lv_at hl 0 rfl) ?_
          refine lv_if_eq (tgt := 347) hx hb dL_act_338 (by decide) (fun c_9 => ?_) (fun c_9 => absurd ho c_9)
          refine lv_sipush (v := 10001) hx hb dL_act_347 (by decide) ?_
          refine rdS (As := [.int (lSh v 6), .int 10001]) (rest := [.int 5000, .int 6, .ref (aa 0)]) ⟨hx, hb, hml, hown, hts⟩ (c_L_low l D z q (lSh v 6) 10001 (by decide)) (va_cwS 2 hts gL_act_L_low rfl rfl rfl hd_L_low ⟨Nat.le_of_ble_eq_true rfl, Nat.le_of_ble_eq_true rfl⟩) hE hS hA hP [] rfl rfl hl.1 rfl (Nat.le_of_ble_eq_true rfl) dL_act_350 ⟨(by show 0 + 0 ≤ 6; omega), (by show 0 + 0 ≤ 36; omega)⟩ ?_
          refine lv_iconst (v := 0) hx hb dL_act_353 (by decide) ?_
          refine hwS (As := [.ref (aa 0), .int 6, .int 5000, .int (lLow (lSh v 6) 10001), .int 0]) (rest := []) ⟨hx, hb, hml, hown, hts⟩ (c_L_does_6_1 l D z q (aa 0) (aa 1) (aa 6) (aa 15) (aa 17) (aa 22) (aa 25) (aa 27) dy (aa 7) (aa 8) (aa 9) (aa 10) (aa 11) (aa 12) (aa 13) (aa 14) ct ti sh pr wt wh 5000 (lLow (lSh v 6) 10001) 0 H.size e0 e1 hlt) (vx_cwSW 5 hts gL_act_L_does rfl rfl rfl hd_L_does ⟨Nat.le_of_ble_eq_true rfl, Nat.le_of_ble_eq_true rfl⟩) hE hS hA hP hD [0, 6, 7, 8, 9, 10, 11, 12, 13, 14] rfl rfl rfl rfl hl.1 rfl (Nat.le_of_ble_eq_true rfl) dL_act_354 ⟨(by show 0 + 3 ≤ 6; omega), (by show 0 + 18 ≤ 36; omega)⟩ (fun H locs hP hD hS => ?_)
          have hP : va_P D vwCl [((aa 0), .inr (6, [.ref (aa 1), .ref (aa 6), .ref (aa 15), .ref (aa 17), .ref (aa 22), .ref (aa 25), .ref (aa 27), .int dy])), ((aa 1), .inr (0, [.ref (aa 2), .ref (aa 4)])), ((aa 2), .inr (1, [.ref (aa 3)])), ((aa 3), .inl (z 0, 26, .inl pl)), ((aa 4), .inr (1, [.ref (aa 5)])), ((aa 5), .inl (z 0, 30, .inl lo)), ((aa 6), .inr (2, [.ref (aa 7), .ref (aa 9), .ref (aa 11), .ref (aa 13), .int wt, .int wh])), ((aa 7), .inr (1, [.ref (aa 8)])), ((aa 8), .inl (z 0, 26, .inl ct)), ((aa 9), .inr (1, [.ref (aa 10)])), ((aa 10), .inl (z 0, 26, .inl ti)), ((aa 11), .inr (1, [.ref (aa 12)])), ((aa 12), .inl (z 0, 26, .inl sh)), ((aa 13), .inr (1, [.ref (aa 14)])), ((aa 14), .inl (z 0, 676, .inl pr)), ((aa 15), .inr (4, [.ref (aa 16), .ref (aa 6)])), ((aa 16), .inl (z 1, 26, .inl ia)), ((aa 17), .inr (3, [.ref (aa 18), .ref (aa 20), .int zz, .int po, .int me, .int ml])), ((aa 18), .inr (1, [.ref (aa 19)])), ((aa 19), .inl (z 0, 40, .inl lt)), ((aa 20), .inr (1, [.ref (aa 21)])), ((aa 21), .inl (z 0, 40, .inl ty)), ((aa 22), .inr (5, [.ref (aa 23), .int sn])), ((aa 23), .inr (1, [.ref (aa 24)])), ((aa 24), .inl (z 0, 100, .inl kp)), ((aa 25), .inr (1, [.ref (aa 26)])), ((aa 26), .inl (z 0, 5, .inl ek)), ((aa 27), .inr (1, [.ref (aa 28)])), ((aa 28), .inl (z 0, 8, .inl ef))] H := hP
          have hD : va_D A [((aa 0), .inr (6, [.ref (aa 1), .ref (aa 6), .ref (aa 15), .ref (aa 17), .ref (aa 22), .ref (aa 25), .ref (aa 27), .int dy])), ((aa 1), .inr (0, [.ref (aa 2), .ref (aa 4)])), ((aa 2), .inr (1, [.ref (aa 3)])), ((aa 3), .inl (z 0, 26, .inl pl)), ((aa 4), .inr (1, [.ref (aa 5)])), ((aa 5), .inl (z 0, 30, .inl lo)), ((aa 6), .inr (2, [.ref (aa 7), .ref (aa 9), .ref (aa 11), .ref (aa 13), .int wt, .int wh])), ((aa 7), .inr (1, [.ref (aa 8)])), ((aa 8), .inl (z 0, 26, .inl ct)), ((aa 9), .inr (1, [.ref (aa 10)])), ((aa 10), .inl (z 0, 26, .inl ti)), ((aa 11), .inr (1, [.ref (aa 12)])), ((aa 12), .inl (z 0, 26, .inl sh)), ((aa 13), .inr (1, [.ref (aa 14)])), ((aa 14), .inl (z 0, 676, .inl pr)), ((aa 15), .inr (4, [.ref (aa 16), .ref (aa 6)])), ((aa 16), .inl (z 1, 26, .inl ia)), ((aa 17), .inr (3, [.ref (aa 18), .ref (aa 20), .int zz, .int po, .int me, .int ml])), ((aa 18), .inr (1, [.ref (aa 19)])), ((aa 19), .inl (z 0, 40, .inl lt)), ((aa 20), .inr (1, [.ref (aa 21)])), ((aa 21), .inl (z 0, 40, .inl ty)), ((aa 22), .inr (5, [.ref (aa 23), .int sn])), ((aa 23), .inr (1, [.ref (aa 24)])), ((aa 24), .inl (z 0, 100, .inl kp)), ((aa 25), .inr (1, [.ref (aa 26)])), ((aa 26), .inl (z 0, 5, .inl ek)), ((aa 27), .inr (1, [.ref (aa 28)])), ((aa 28), .inl (z 0, 8, .inl ef))] := hD
          refine lv_goto (tgt := 364) hx hb dL_act_357 (by decide) ?_
          exact wr_i hx hb hr hlocks hP hD hS dL_act_364 rfl rfl (by omega) (by omega)
        · refine ⟨(pl, lo, ct, ti, sh, pr, ia, lt, ty, kp, ek, ef, 5000, (lLow (lSh v 6) 10001), zz, po, me, ml, sn, dy), 0, CI_wish hI 5000 (lLow (lSh v 6) 10001), fun h => absurd h (by decide), ?_⟩
          intro p l e s m below meth c D z q aa A H locs G hP hD hS ls hl
          obtain ⟨hx, hb, hr, hml, hts, hown, hlocks, hE, hA, hlt⟩ := G
          have hP : va_P D vwCl (coL z aa pl lo ct ti sh pr ia lt ty kp ek ef wt wh zz po me ml sn dy) H := hP
          have hD : va_D A (coL z aa pl lo ct ti sh pr ia lt ty kp ek ef wt wh zz po me ml sn dy) := hD
          refine lv_iload_n hx hb dL_act_114 rfl (lv_at hl 1 rfl) ?_
          refine lv_bipush (v := 6) hx hb dL_act_115 (by decide) ?_
          refine lv_icmp_ge (tgt := 130) hx hb dL_act_117 (by decide) (fun c_1 => ?_) (fun c_1 => absurd k0 c_1)
          refine lv_iload_n hx hb dL_act_130 rfl (lv_at hl 1 rfl) ?_
          refine lv_bipush (v := 20) hx hb dL_act_131 (by decide) ?_
          refine lv_icmp_ge (tgt := 190) hx hb dL_act_133 (by decide) (fun c_2 => ?_) (fun c_2 => absurd k1 c_2)
          refine lv_iload_n hx hb dL_act_190 rfl (lv_at hl 1 rfl) ?_
          refine lv_bipush (v := 23) hx hb dL_act_191 (by decide) ?_
          refine lv_icmp_ge (tgt := 206) hx hb dL_act_193 (by decide) (fun c_3 => ?_) (fun c_3 => absurd k2 c_3)
          refine lv_iload_n hx hb dL_act_206 rfl (lv_at hl 1 rfl) ?_
          refine lv_bipush (v := 25) hx hb dL_act_207 (by decide) ?_
          refine lv_icmp_ge (tgt := 247) hx hb dL_act_209 (by decide) (fun c_4 => ?_) (fun c_4 => absurd k3 c_4)
          refine lv_iload_n hx hb dL_act_247 rfl (lv_at hl 1 rfl) ?_
          refine lv_bipush (v := 30) hx hb dL_act_248 (by decide) ?_
          refine lv_icmp_ge (tgt := 262) hx hb dL_act_250 (by decide) (fun c_5 => ?_) (fun c_5 => absurd k4 c_5)
          refine lv_iload_n hx hb dL_act_262 rfl (lv_at hl 1 rfl) ?_
          refine lv_bipush (v := 32) hx hb dL_act_263 (by decide) ?_
          refine lv_icmp_ge (tgt := 310) hx hb dL_act_265 (by decide) (fun c_6 => ?_) (fun c_6 => absurd k5 c_6)
          refine lv_iload_n hx hb dL_act_310 rfl (lv_at hl 1 rfl) ?_
          refine lv_bipush (v := 35) hx hb dL_act_311 (by decide) ?_
          refine lv_icmp_ge (tgt := 360) hx hb dL_act_313 (by decide) (fun c_7 => absurd c_7 k6) (fun c_7 => ?_)
          refine lv_aload_n hx hb dL_act_316 rfl (lv_at hl 4 rfl) ?_
          refine lv_bipush (v := 6) hx hb dL_act_317 (by decide) ?_
          refine lv_iload_n hx hb dL_act_319 rfl (lv_at hl 1 rfl) ?_
          refine lv_bipush (v := 32) hx hb dL_act_320 (by decide) ?_
          refine lv_icmp_ne (tgt := 331) hx hb dL_act_322 (by decide) (fun c_8 => absurd hw c_8) (fun c_8 => ?_)
          refine lv_sipush (v := 5000) hx hb dL_act_325 (by decide) ?_
          refine lv_goto (tgt := 333) hx hb dL_act_328 (by decide) ?_
          refine lv_iload_n hx hb dL_act_333 rfl (lv_at hl 5 rfl) ?_
          refine lv_bipush (v := 6) hx hb dL_act_334 (by decide) ?_
          refine lv_ishr hx hb dL_act_336 ?_
          refine lv_iload_n hx hb dL_act_337 rfl (lv_at hl 0 rfl) ?_
          refine lv_if_eq (tgt := 347) hx hb dL_act_338 (by decide) (fun c_9 => ?_) (fun c_9 => absurd ho c_9)
          refine lv_sipush (v := 10001) hx hb dL_act_347 (by decide) ?_
          refine rdS (As := [.int (lSh v 6), .int 10001]) (rest := [.int 5000, .int 6, .ref (aa 0)]) ⟨hx, hb, hml, hown, hts⟩ (c_L_low l D z q (lSh v 6) 10001 (by decide)) (va_cwS 2 hts gL_act_L_low rfl rfl rfl hd_L_low ⟨Nat.le_of_ble_eq_true rfl, Nat.le_of_ble_eq_true rfl⟩) hE hS hA hP [] rfl rfl hl.1 rfl (Nat.le_of_ble_eq_true rfl) dL_act_350 ⟨(by show 0 + 0 ≤ 6; omega), (by show 0 + 0 ≤ 36; omega)⟩ ?_
          refine lv_iconst (v := 0) hx hb dL_act_353 (by decide) ?_
          refine hwS (As := [.ref (aa 0), .int 6, .int 5000, .int (lLow (lSh v 6) 10001), .int 0]) (rest := []) ⟨hx, hb, hml, hown, hts⟩ (c_L_does_6_2 l D z q (aa 0) (aa 1) (aa 6) (aa 15) (aa 17) (aa 22) (aa 25) (aa 27) dy (aa 7) (aa 8) (aa 9) (aa 10) (aa 11) (aa 12) (aa 13) (aa 14) ct ti sh pr wt wh 5000 (lLow (lSh v 6) 10001) 0 H.size e0 e1 hlt) (vx_cwSW 5 hts gL_act_L_does rfl rfl rfl hd_L_does ⟨Nat.le_of_ble_eq_true rfl, Nat.le_of_ble_eq_true rfl⟩) hE hS hA hP hD [0, 6, 7, 8, 9, 10, 11, 12, 13, 14] rfl rfl rfl rfl hl.1 rfl (Nat.le_of_ble_eq_true rfl) dL_act_354 ⟨(by show 0 + 3 ≤ 6; omega), (by show 0 + 18 ≤ 36; omega)⟩ (fun H locs hP hD hS => ?_)
          have hP : va_P D vwCl [((aa 0), .inr (6, [.ref (aa 1), .ref (aa 6), .ref (aa 15), .ref (aa 17), .ref (aa 22), .ref (aa 25), .ref (aa 27), .int dy])), ((aa 1), .inr (0, [.ref (aa 2), .ref (aa 4)])), ((aa 2), .inr (1, [.ref (aa 3)])), ((aa 3), .inl (z 0, 26, .inl pl)), ((aa 4), .inr (1, [.ref (aa 5)])), ((aa 5), .inl (z 0, 30, .inl lo)), ((aa 6), .inr (2, [.ref (aa 7), .ref (aa 9), .ref (aa 11), .ref (aa 13), .int 5000, .int (lLow (lSh v 6) 10001)])), ((aa 7), .inr (1, [.ref (aa 8)])), ((aa 8), .inl (z 0, 26, .inl ct)), ((aa 9), .inr (1, [.ref (aa 10)])), ((aa 10), .inl (z 0, 26, .inl ti)), ((aa 11), .inr (1, [.ref (aa 12)])), ((aa 12), .inl (z 0, 26, .inl sh)), ((aa 13), .inr (1, [.ref (aa 14)])), ((aa 14), .inl (z 0, 676, .inl pr)), ((aa 15), .inr (4, [.ref (aa 16), .ref (aa 6)])), ((aa 16), .inl (z 1, 26, .inl ia)), ((aa 17), .inr (3, [.ref (aa 18), .ref (aa 20), .int zz, .int po, .int me, .int ml])), ((aa 18), .inr (1, [.ref (aa 19)])), ((aa 19), .inl (z 0, 40, .inl lt)), ((aa 20), .inr (1, [.ref (aa 21)])), ((aa 21), .inl (z 0, 40, .inl ty)), ((aa 22), .inr (5, [.ref (aa 23), .int sn])), ((aa 23), .inr (1, [.ref (aa 24)])), ((aa 24), .inl (z 0, 100, .inl kp)), ((aa 25), .inr (1, [.ref (aa 26)])), ((aa 26), .inl (z 0, 5, .inl ek)), ((aa 27), .inr (1, [.ref (aa 28)])), ((aa 28), .inl (z 0, 8, .inl ef))] H := hP
          have hD : va_D A [((aa 0), .inr (6, [.ref (aa 1), .ref (aa 6), .ref (aa 15), .ref (aa 17), .ref (aa 22), .ref (aa 25), .ref (aa 27), .int dy])), ((aa 1), .inr (0, [.ref (aa 2), .ref (aa 4)])), ((aa 2), .inr (1, [.ref (aa 3)])), ((aa 3), .inl (z 0, 26, .inl pl)), ((aa 4), .inr (1, [.ref (aa 5)])), ((aa 5), .inl (z 0, 30, .inl lo)), ((aa 6), .inr (2, [.ref (aa 7), .ref (aa 9), .ref (aa 11), .ref (aa 13), .int 5000, .int (lLow (lSh v 6) 10001)])), ((aa 7), .inr (1, [.ref (aa 8)])), ((aa 8), .inl (z 0, 26, .inl ct)), ((aa 9), .inr (1, [.ref (aa 10)])), ((aa 10), .inl (z 0, 26, .inl ti)), ((aa 11), .inr (1, [.ref (aa 12)])), ((aa 12), .inl (z 0, 26, .inl sh)), ((aa 13), .inr (1, [.ref (aa 14)])), ((aa 14), .inl (z 0, 676, .inl pr)), ((aa 15), .inr (4, [.ref (aa 16), .ref (aa 6)])), ((aa 16), .inl (z 1, 26, .inl ia)), ((aa 17), .inr (3, [.ref (aa 18), .ref (aa 20), .int zz, .int po, .int me, .int ml])), ((aa 18), .inr (1, [.ref (aa 19)])), ((aa 19), .inl (z 0, 40, .inl lt)), ((aa 20), .inr (1, [.ref (aa 21)])), ((aa 21), .inl (z 0, 40, .inl ty)), ((aa 22), .inr (5, [.ref (aa 23), .int sn])), ((aa 23), .inr (1, [.ref (aa 24)])), ((aa 24), .inl (z 0, 100, .inl kp)), ((aa 25), .inr (1, [.ref (aa 26)])), ((aa 26), .inl (z 0, 5, .inl ek)), ((aa 27), .inr (1, [.ref (aa 28)])), ((aa 28), .inl (z 0, 8, .inl ef))] := hD
          refine lv_goto (tgt := 364) hx hb dL_act_357 (by decide) ?_
          exact wr_i hx hb hr hlocks hP hD hS dL_act_364 rfl rfl (by omega) (by omega)
    · by_cases e0 : bW 5000 1 5000 = 0
      · refine ⟨(pl, lo, ct, ti, sh, pr, ia, lt, ty, kp, ek, ef, wt, wh, zz, po, me, ml, sn, dy), -99999, CI_mono hI, fun _ => rfl, ?_⟩
        intro p l e s m below meth c D z q aa A H locs G hP hD hS ls hl
        obtain ⟨hx, hb, hr, hml, hts, hown, hlocks, hE, hA, hlt⟩ := G
        have hP : va_P D vwCl (coL z aa pl lo ct ti sh pr ia lt ty kp ek ef wt wh zz po me ml sn dy) H := hP
        have hD : va_D A (coL z aa pl lo ct ti sh pr ia lt ty kp ek ef wt wh zz po me ml sn dy) := hD
        refine lv_iload_n hx hb dL_act_114 rfl (lv_at hl 1 rfl) ?_
        refine lv_bipush (v := 6) hx hb dL_act_115 (by decide) ?_
        refine lv_icmp_ge (tgt := 130) hx hb dL_act_117 (by decide) (fun c_1 => ?_) (fun c_1 => absurd k0 c_1)
        refine lv_iload_n hx hb dL_act_130 rfl (lv_at hl 1 rfl) ?_
        refine lv_bipush (v := 20) hx hb dL_act_131 (by decide) ?_
        refine lv_icmp_ge (tgt := 190) hx hb dL_act_133 (by decide) (fun c_2 => ?_) (fun c_2 => absurd k1 c_2)
        refine lv_iload_n hx hb dL_act_190 rfl (lv_at hl 1 rfl) ?_
        refine lv_bipush (v := 23) hx hb dL_act_191 (by decide) ?_
        refine lv_icmp_ge (tgt := 206) hx hb dL_act_193 (by decide) (fun c_3 => ?_) (fun c_3 => absurd k2 c_3)
        refine lv_iload_n hx hb dL_act_206 rfl (lv_at hl 1 rfl) ?_
        refine lv_bipush (v := 25) hx hb dL_act_207 (by decide) ?_
        refine lv_icmp_ge (tgt := 247) hx hb dL_act_209 (by decide) (fun c_4 => ?_) (fun c_4 => absurd k3 c_4)
        refine lv_iload_n hx hb dL_act_247 rfl (lv_at hl 1 rfl) ?_
        refine lv_bipush (v := 30) hx hb dL_act_248 (by decide) ?_
        refine lv_icmp_ge (tgt := 262) hx hb dL_act_250 (by decide) (fun c_5 => ?_) (fun c_5 => absurd k4 c_5)
        refine lv_iload_n hx hb dL_act_262 rfl (lv_at hl 1 rfl) ?_
        refine lv_bipush (v := 32) hx hb dL_act_263 (by decide) ?_
        refine lv_icmp_ge (tgt := 310) hx hb dL_act_265 (by decide) (fun c_6 => ?_) (fun c_6 => absurd k5 c_6)
        refine lv_iload_n hx hb dL_act_310 rfl (lv_at hl 1 rfl) ?_
        refine lv_bipush (v := 35) hx hb dL_act_311 (by decide) ?_
        refine lv_icmp_ge (tgt := 360) hx hb dL_act_313 (by decide) (fun c_7 => absurd c_7 k6) (fun c_7 => ?_)
        refine lv_aload_n hx hb dL_act_316 rfl (lv_at hl 4 rfl) ?_
        refine lv_bipush (v := 6) hx hb dL_act_317 (by decide) ?_
        refine lv_iload_n hx hb dL_act_319 rfl (lv_at hl 1 rfl) ?_
        refine lv_bipush (v := 32) hx hb dL_act_320 (by decide) ?_
        refine lv_icmp_ne (tgt := 331) hx hb dL_act_322 (by decide) (fun c_8 => absurd hw c_8) (fun c_8 => ?_)
        refine lv_sipush (v := 5000) hx hb dL_act_325 (by decide) ?_
        refine lv_goto (tgt := 333) hx hb dL_act_328 (by decide) ?_
        refine lv_iload_n hx hb dL_act_333 rfl (lv_at hl 5 rfl) ?_
        refine lv_bipush (v := 6) hx hb dL_act_334 (by decide) ?_
        refine lv_ishr hx hb dL_act_336 ?_
        refine lv_iload_n hx hb dL_act_337 rfl (lv_at hl 0 rfl) ?_
        refine lv_if_eq (tgt := 347) hx hb dL_act_338 (by decide) (fun c_9 => absurd c_9 ho) (fun c_9 => ?_)
        refine lv_sipush (v := 11000) hx hb dL_act_341 (by decide) ?_
        refine lv_goto (tgt := 350) hx hb dL_act_344 (by decide) ?_
        refine rdS (As := [.int (lSh v 6), .int 11000]) (rest := [.int 5000, .int 6, .ref (aa 0)]) ⟨hx, hb, hml, hown, hts⟩ (c_L_low l D z q (lSh v 6) 11000 (by decide)) (va_cwS 2 hts gL_act_L_low rfl rfl rfl hd_L_low ⟨Nat.le_of_ble_eq_true rfl, Nat.le_of_ble_eq_true rfl⟩) hE hS hA hP [] rfl rfl hl.1 rfl (Nat.le_of_ble_eq_true rfl) dL_act_350 ⟨(by show 0 + 0 ≤ 6; omega), (by show 0 + 0 ≤ 36; omega)⟩ ?_
        refine lv_iconst (v := 0) hx hb dL_act_353 (by decide) ?_
        refine hwS (As := [.ref (aa 0), .int 6, .int 5000, .int (lLow (lSh v 6) 11000), .int 0]) (rest := []) ⟨hx, hb, hml, hown, hts⟩ (c_L_does_6_0 l D z q (aa 0) (aa 1) (aa 6) (aa 15) (aa 17) (aa 22) (aa 25) (aa 27) dy (aa 7) (aa 8) (aa 9) (aa 10) (aa 11) (aa 12) (aa 13) (aa 14) ct ti sh pr wt wh 5000 (lLow (lSh v 6) 11000) 0 H.size e0 hlt) (vx_cwSW 5 hts gL_act_L_does rfl rfl rfl hd_L_does ⟨Nat.le_of_ble_eq_true rfl, Nat.le_of_ble_eq_true rfl⟩) hE hS hA hP hD [0, 6, 7, 8, 9, 10, 11, 12, 13, 14] rfl rfl rfl rfl hl.1 rfl (Nat.le_of_ble_eq_true rfl) dL_act_354 ⟨(by show 0 + 3 ≤ 6; omega), (by show 0 + 18 ≤ 36; omega)⟩ (fun H locs hP hD hS => ?_)
        have hP : va_P D vwCl [((aa 0), .inr (6, [.ref (aa 1), .ref (aa 6), .ref (aa 15), .ref (aa 17), .ref (aa 22), .ref (aa 25), .ref (aa 27), .int dy])), ((aa 1), .inr (0, [.ref (aa 2), .ref (aa 4)])), ((aa 2), .inr (1, [.ref (aa 3)])), ((aa 3), .inl (z 0, 26, .inl pl)), ((aa 4), .inr (1, [.ref (aa 5)])), ((aa 5), .inl (z 0, 30, .inl lo)), ((aa 6), .inr (2, [.ref (aa 7), .ref (aa 9), .ref (aa 11), .ref (aa 13), .int wt, .int wh])), ((aa 7), .inr (1, [.ref (aa 8)])), ((aa 8), .inl (z 0, 26, .inl ct)), ((aa 9), .inr (1, [.ref (aa 10)])), ((aa 10), .inl (z 0, 26, .inl ti)), ((aa 11), .inr (1, [.ref (aa 12)])), ((aa 12), .inl (z 0, 26, .inl sh)), ((aa 13), .inr (1, [.ref (aa 14)])), ((aa 14), .inl (z 0, 676, .inl pr)), ((aa 15), .inr (4, [.ref (aa 16), .ref (aa 6)])), ((aa 16), .inl (z 1, 26, .inl ia)), ((aa 17), .inr (3, [.ref (aa 18), .ref (aa 20), .int zz, .int po, .int me, .int ml])), ((aa 18), .inr (1, [.ref (aa 19)])), ((aa 19), .inl (z 0, 40, .inl lt)), ((aa 20), .inr (1, [.ref (aa 21)])), ((aa 21), .inl (z 0, 40, .inl ty)), ((aa 22), .inr (5, [.ref (aa 23), .int sn])), ((aa 23), .inr (1, [.ref (aa 24)])), ((aa 24), .inl (z 0, 100, .inl kp)), ((aa 25), .inr (1, [.ref (aa 26)])), ((aa 26), .inl (z 0, 5, .inl ek)), ((aa 27), .inr (1, [.ref (aa 28)])), ((aa 28), .inl (z 0, 8, .inl ef))] H := hP
        have hD : va_D A [((aa 0), .inr (6, [.ref (aa 1), .ref (aa 6), .ref (aa 15), .ref (aa 17), .ref (aa 22), .ref (aa 25), .ref (aa 27), .int dy])), ((aa 1), .inr (0, [.ref (aa 2), .ref (aa 4)])), ((aa 2), .inr (1, [.ref (aa 3)])), ((aa 3), .inl (z 0, 26, .inl pl)), ((aa 4), .inr (1, [.ref (aa 5)])), ((aa 5), .inl (z 0, 30, .inl lo)), ((aa 6), .inr (2, [.ref (aa 7), .ref (aa 9), .ref (aa 11), .ref (aa 13), .int wt, .int wh])), ((aa 7), .inr (1, [.ref (aa 8)])), ((aa 8), .inl (z 0, 26, .inl ct)), ((aa 9), .inr (1, [.ref (aa 10)])), ((aa 10), .inl (z 0, 26, .inl ti)), ((aa 11), .inr (1, [.ref (aa 12)])), ((aa 12), .inl (z 0, 26, .inl sh)), ((aa 13), .inr (1, [.ref (aa 14)])), ((aa 14), .inl (z 0, 676, .inl pr)), ((aa 15), .inr (4, [.ref (aa 16), .ref (aa 6)])), ((aa 16), .inl (z 1, 26, .inl ia)), ((aa 17), .inr (3, [.ref (aa 18), .ref (aa 20), .int zz, .int po, .int me, .int ml])), ((aa 18), .inr (1, [.ref (aa 19)])), ((aa 19), .inl (z 0, 40, .inl lt)), ((aa 20), .inr (1, [.ref (aa 21)])), ((aa 21), .inl (z 0, 40, .inl ty)), ((aa 22), .inr (5, [.ref (aa 23), .int sn])), ((aa 23), .inr (1, [.ref (aa 24)])), ((aa 24), .inl (z 0, 100, .inl kp)), ((aa 25), .inr (1, [.ref (aa 26)])), ((aa 26), .inl (z 0, 5, .inl ek)), ((aa 27), .inr (1, [.ref (aa 28)])), ((aa 28), .inl (z 0, 8, .inl ef))] := hD
        refine lv_goto (tgt := 364) hx hb dL_act_357 (by decide) ?_
        exact wr_i hx hb hr hlocks hP hD hS dL_act_364 rfl rfl (by omega) (by omega)
      · by_cases e1 : bW (lLow (lSh v 6) 11000) 0 10000 = 0
        · refine ⟨(pl, lo, ct, ti, sh, pr, ia, lt, ty, kp, ek, ef, wt, wh, zz, po, me, ml, sn, dy), -99999, CI_mono hI, fun _ => rfl, ?_⟩
          intro p l e s m below meth c D z q aa A H locs G hP hD hS ls hl
          obtain ⟨hx, hb, hr, hml, hts, hown, hlocks, hE, hA, hlt⟩ := G
          have hP : va_P D vwCl (coL z aa pl lo ct ti sh pr ia lt ty kp ek ef wt wh zz po me ml sn dy) H := hP
          have hD : va_D A (coL z aa pl lo ct ti sh pr ia lt ty kp ek ef wt wh zz po me ml sn dy) := hD
          refine lv_iload_n hx hb dL_act_114 rfl (lv_at hl 1 rfl) ?_
          refine lv_bipush (v := 6) hx hb dL_act_115 (by decide) ?_
          refine lv_icmp_ge (tgt := 130) hx hb dL_act_117 (by decide) (fun c_1 => ?_) (fun c_1 => absurd k0 c_1)
          refine lv_iload_n hx hb dL_act_130 rfl (lv_at hl 1 rfl) ?_
          refine lv_bipush (v := 20) hx hb dL_act_131 (by decide) ?_
          refine lv_icmp_ge (tgt := 190) hx hb dL_act_133 (by decide) (fun c_2 => ?_) (fun c_2 => absurd k1 c_2)
          refine lv_iload_n hx hb dL_act_190 rfl (lv_at hl 1 rfl) ?_
          refine lv_bipush (v := 23) hx hb dL_act_191 (by decide) ?_
          refine lv_icmp_ge (tgt := 206) hx hb dL_act_193 (by decide) (fun c_3 => ?_) (fun c_3 => absurd k2 c_3)
          refine lv_iload_n hx hb dL_act_206 rfl (lv_at hl 1 rfl) ?_
          refine lv_bipush (v := 25) hx hb dL_act_207 (by decide) ?_
          refine lv_icmp_ge (tgt := 247) hx hb dL_act_209 (by decide) (fun c_4 => ?_) (fun c_4 => absurd k3 c_4)
          refine lv_iload_n hx hb dL_act_247 rfl (lv_at hl 1 rfl) ?_
          refine lv_bipush (v := 30) hx hb dL_act_248 (by decide) ?_
          refine lv_icmp_ge (tgt := 262) hx hb dL_act_250 (by decide) (fun c_5 => ?_) (fun c_5 => absurd k4 c_5)
          refine lv_iload_n hx hb dL_act_262 rfl (lv_at hl 1 rfl) ?_
          refine lv_bipush (v := 32) hx hb dL_act_263 (by decide) ?_
          refine lv_icmp_ge (tgt := 310) hx hb dL_act_265 (by decide) (fun c_6 => ?_) (fun c_6 => absurd k5 c_6)
          refine lv_iload_n hx hb dL_act_310 rfl (lv_at hl 1 rfl) ?_
          refine lv_bipush (v := 35) hx hb dL_act_311 (by decide) ?_
          refine lv_icmp_ge (tgt := 360) hx hb dL_act_313 (by decide) (fun c_7 => absurd c_7 k6) (fun c_7 => ?_)
          refine lv_aload_n hx hb dL_act_316 rfl (lv_at hl 4 rfl) ?_
          refine lv_bipush (v := 6) hx hb dL_act_317 (by decide) ?_
          refine lv_iload_n hx hb dL_act_319 rfl (lv_at hl 1 rfl) ?_
          refine lv_bipush (v := 32) hx hb dL_act_320 (by decide) ?_
          refine lv_icmp_ne (tgt := 331) hx hb dL_act_322 (by decide) (fun c_8 => absurd hw c_8) (fun c_8 => ?_)
          refine lv_sipush (v := 5000) hx hb dL_act_325 (by decide) ?_
          refine lv_goto (tgt := 333) hx hb dL_act_328 (by decide) ?_
          refine lv_iload_n hx hb dL_act_333 rfl (lv_at hl 5 rfl) ?_
          refine lv_bipush (v := 6) hx hb dL_act_334 (by decide) ?_
          refine lv_ishr hx hb dL_act_336 ?_
          refine lv_iload_n hx hb dL_act_337 rfl (lv_at hl 0 rfl) ?_
          refine lv_if_eq (tgt := 347) hx hb dL_act_338 (by decide) (fun c_9 => absurd c_9 ho) (fun c_9 => ?_)
          refine lv_sipush (v := 11000) hx hb dL_act_341 (by decide) ?_
          refine lv_goto (tgt := 350) hx hb dL_act_344 (by decide) ?_
          refine rdS (As := [.int (lSh v 6), .int 11000]) (rest := [.int 5000, .int 6, .ref (aa 0)]) ⟨hx, hb, hml, hown, hts⟩ (c_L_low l D z q (lSh v 6) 11000 (by decide)) (va_cwS 2 hts gL_act_L_low rfl rfl rfl hd_L_low ⟨Nat.le_of_ble_eq_true rfl, Nat.le_of_ble_eq_true rfl⟩) hE hS hA hP [] rfl rfl hl.1 rfl (Nat.le_of_ble_eq_true rfl) dL_act_350 ⟨(by show 0 + 0 ≤ 6; omega), (by show 0 + 0 ≤ 36; omega)⟩ ?_
          refine lv_iconst (v := 0) hx hb dL_act_353 (by decide) ?_
          refine hwS (As := [.ref (aa 0), .int 6, .int 5000, .int (lLow (lSh v 6) 11000), .int 0]) (rest := []) ⟨hx, hb, hml, hown, hts⟩ (c_L_does_6_1 l D z q (aa 0) (aa 1) (aa 6) (aa 15) (aa 17) (aa 22) (aa 25) (aa 27) dy (aa 7) (aa 8) (aa 9) (aa 10) (aa 11) (aa 12) (aa 13) (aa 14) ct ti sh pr wt wh 5000 (lLow (lSh v 6) 11000) 0 H.size e0 e1 hlt) (vx_cwSW 5 hts gL_act_L_does rfl rfl rfl hd_L_does ⟨Nat.le_of_ble_eq_true rfl, Nat.le_of_ble_eq_true rfl⟩) hE hS hA hP hD [0, 6, 7, 8, 9, 10, 11, 12, 13, 14] rfl rfl rfl rfl hl.1 rfl (Nat.le_of_ble_eq_true rfl) dL_act_354 ⟨(by show 0 + 3 ≤ 6; omega), (by show 0 + 18 ≤ 36; omega)⟩ (fun H locs hP hD hS => ?_)
          have hP : va_P D vwCl [((aa 0), .inr (6, [.ref (aa 1), .ref (aa 6), .ref (aa 15), .ref (aa 17), .ref (aa 22), .ref (aa 25), .ref (aa 27), .int dy])), ((aa 1), .inr (0, [.ref (aa 2), .ref (aa 4)])), ((aa 2), .inr (1, [.ref (aa 3)])), ((aa 3), .inl (z 0, 26, .inl pl)), ((aa 4), .inr (1, [.ref (aa 5)])), ((aa 5), .inl (z 0, 30, .inl lo)), ((aa 6), .inr (2, [.ref (aa 7), .ref (aa 9), .ref (aa 11), .ref (aa 13), .int wt, .int wh])), ((aa 7), .inr (1, [.ref (aa 8)])), ((aa 8), .inl (z 0, 26, .inl ct)), ((aa 9), .inr (1, [.ref (aa 10)])), ((aa 10), .inl (z 0, 26, .inl ti)), ((aa 11), .inr (1, [.ref (aa 12)])), ((aa 12), .inl (z 0, 26, .inl sh)), ((aa 13), .inr (1, [.ref (aa 14)])), ((aa 14), .inl (z 0, 676, .inl pr)), ((aa 15), .inr (4, [.ref (aa 16), .ref (aa 6)])), ((aa 16), .inl (z 1, 26, .inl ia)), ((aa 17), .inr (3, [.ref (aa 18), .ref (aa 20), .int zz, .int po, .int me, .int ml])), ((aa 18), .inr (1, [.ref (aa 19)])), ((aa 19), .inl (z 0, 40, .inl lt)), ((aa 20), .inr (1, [.ref (aa 21)])), ((aa 21), .inl (z 0, 40, .inl ty)), ((aa 22), .inr (5, [.ref (aa 23), .int sn])), ((aa 23), .inr (1, [.ref (aa 24)])), ((aa 24), .inl (z 0, 100, .inl kp)), ((aa 25), .inr (1, [.ref (aa 26)])), ((aa 26), .inl (z 0, 5, .inl ek)), ((aa 27), .inr (1, [.ref (aa 28)])), ((aa 28), .inl (z 0, 8, .inl ef))] H := hP
          have hD : va_D A [((aa 0), .inr (6, [.ref (aa 1), .ref (aa 6), .ref (aa 15), .ref (aa 17), .ref (aa 22), .ref (aa 25), .ref (aa 27), .int dy])), ((aa 1), .inr (0, [.ref (aa 2), .ref (aa 4)])), ((aa 2), .inr (1, [.ref (aa 3)])), ((aa 3), .inl (z 0, 26, .inl pl)), ((aa 4), .inr (1, [.ref (aa 5)])), ((aa 5), .inl (z 0, 30, .inl lo)), ((aa 6), .inr (2, [.ref (aa 7), .ref (aa 9), .ref (aa 11), .ref (aa 13), .int wt, .int wh])), ((aa 7), .inr (1, [.ref (aa 8)])), ((aa 8), .inl (z 0, 26, .inl ct)), ((aa 9), .inr (1, [.ref (aa 10)])), ((aa 10), .inl (z 0, 26, .inl ti)), ((aa 11), .inr (1, [.ref (aa 12)])), ((aa 12), .inl (z 0, 26, .inl sh)), ((aa 13), .inr (1, [.ref (aa 14)])), ((aa 14), .inl (z 0, 676, .inl pr)), ((aa 15), .inr (4, [.ref (aa 16), .ref (aa 6)])), ((aa 16), .inl (z 1, 26, .inl ia)), ((aa 17), .inr (3, [.ref (aa 18), .ref (aa 20), .int zz, .int po, .int me, .int ml])), ((aa 18), .inr (1, [.ref (aa 19)])), ((aa 19), .inl (z 0, 40, .inl lt)), ((aa 20), .inr (1, [.ref (aa 21)])), ((aa 21), .inl (z 0, 40, .inl ty)), ((aa 22), .inr (5, [.ref (aa 23), .int sn])), ((aa 23), .inr (1, [.ref (aa 24)])), ((aa 24), .inl (z 0, 100, .inl kp)), ((aa 25), .inr (1, [.ref (aa 26)])), ((aa 26), .inl (z 0, 5, .inl ek)), ((aa 27), .inr (1, [.ref (aa 28)])), ((aa 28), .inl (z 0, 8, .inl ef))] := hD
          refine lv_goto (tgt := 364) hx hb dL_act_357 (by decide) ?_
          exact wr_i hx hb hr hlocks hP hD hS dL_act_364 rfl rfl (by omega) (by omega)
        · refine ⟨(pl, lo, ct, ti, sh, pr, ia, lt, ty, kp, ek, ef, 5000, (lLow (lSh v 6) 11000), zz, po, me, ml, sn, dy), 0, CI_wish hI 5000 (lLow (lSh v 6) 11000), fun h => absurd h (by decide), ?_⟩
          intro p l e s m below meth c D z q aa A H locs G hP hD hS ls hl
          obtain ⟨hx, hb, hr, hml, hts, hown, hlocks, hE, hA, hlt⟩ := G
          have hP : va_P D vwCl (coL z aa pl lo ct ti sh pr ia lt ty kp ek ef wt wh zz po me ml sn dy) H := hP
          have hD : va_D A (coL z aa pl lo ct ti sh pr ia lt ty kp ek ef wt wh zz po me ml sn dy) := hD
          refine lv_iload_n hx hb dL_act_114 rfl (lv_at hl 1 rfl) ?_
          refine lv_bipush (v := 6) hx hb dL_act_115 (by decide) ?_
          refine lv_icmp_ge (tgt := 130) hx hb dL_act_117 (by decide) (fun c_1 => ?_) (fun c_1 => absurd k0 c_1)
          refine lv_iload_n hx hb dL_act_130 rfl (lv_at hl 1 rfl) ?_
          refine lv_bipush (v := 20) hx hb dL_act_131 (by decide) ?_
          refine lv_icmp_ge (tgt := 190) hx hb dL_act_133 (by decide) (fun c_2 => ?_) (fun c_2 => absurd k1 c_2)
          refine lv_iload_n hx hb dL_act_190 rfl (lv_at hl 1 rfl) ?_
          refine lv_bipush (v := 23) hx hb dL_act_191 (by decide) ?_
          refine lv_icmp_ge (tgt := 206) hx hb dL_act_193 (by decide) (fun c_3 => ?_) (fun c_3 => absurd k2 c_3)
          refine lv_iload_n hx hb dL_act_206 rfl (lv_at hl 1 rfl) ?_
          refine lv_bipush (v := 25) hx hb dL_act_207 (by decide) ?_
          refine lv_icmp_ge (tgt := 247) hx hb dL_act_209 (by decide) (fun c_4 => ?_) (fun c_4 => absurd k3 c_4)
          refine lv_iload_n hx hb dL_act_247 rfl (lv_at hl 1 rfl) ?_
          refine lv_bipush (v := 30) hx hb dL_act_248 (by decide) ?_
          refine lv_icmp_ge (tgt := 262) hx hb dL_act_250 (by decide) (fun c_5 => ?_) (fun c_5 => absurd k4 c_5)
          refine lv_iload_n hx hb dL_act_262 rfl (lv_at hl 1 rfl) ?_
          refine lv_bipush (v := 32) hx hb dL_act_263 (by decide) ?_
          refine lv_icmp_ge (tgt := 310) hx hb dL_act_265 (by decide) (fun c_6 => ?_) (fun c_6 => absurd k5 c_6)
          refine lv_iload_n hx hb dL_act_310 rfl (lv_at hl 1 rfl) ?_
          refine lv_bipush (v := 35) hx hb dL_act_311 (by decide) ?_
          refine lv_icmp_ge (tgt := 360) hx hb dL_act_313 (by decide) (fun c_7 => absurd c_7 k6) (fun c_7 => ?_)
          refine lv_aload_n hx hb dL_act_316 rfl (lv_at hl 4 rfl) ?_
          refine lv_bipush (v := 6) hx hb dL_act_317 (by decide) ?_
          refine lv_iload_n hx hb dL_act_319 rfl (lv_at hl 1 rfl) ?_
          refine lv_bipush (v := 32) hx hb dL_act_320 (by decide) ?_
          refine lv_icmp_ne (tgt := 331) hx hb dL_act_322 (by decide) (fun c_8 => absurd hw c_8) (fun c_8 => ?_)
          refine lv_sipush (v := 5000) hx hb dL_act_325 (by decide) ?_
          refine lv_goto (tgt := 333) hx hb dL_act_328 (by decide) ?_
          refine lv_iload_n hx hb dL_act_333 rfl (lv_at hl 5 rfl) ?_
          refine lv_bipush (v := 6) hx hb dL_act_334 (by decide) ?_
          refine lv_ishr hx hb dL_act_336 ?_
          refine lv_iload_n hx hb dL_act_337 rfl (lv_at hl 0 rfl) ?_
          refine lv_if_eq (tgt := 347) hx hb dL_act_338 (by decide) (fun c_9 => absurd c_9 ho) (fun c_9 => ?_)
          refine lv_sipush (v := 11000) hx hb dL_act_341 (by decide) ?_
          refine lv_goto (tgt := 350) hx hb dL_act_344 (by decide) ?_
          refine rdS (As := [.int (lSh v 6), .int 11000]) (rest := [.int 5000, .int 6, .ref (aa 0)]) ⟨hx, hb, hml, hown, hts⟩ (c_L_low l D z q (lSh v 6) 11000 (by decide)) (va_cwS 2 hts gL_act_L_low rfl rfl rfl hd_L_low ⟨Nat.le_of_ble_eq_true rfl, Nat.le_of_ble_eq_true rfl⟩) hE hS hA hP [] rfl rfl hl.1 rfl (Nat.le_of_ble_eq_true rfl) dL_act_350 ⟨(by show 0 + 0 ≤ 6; omega), (by show 0 + 0 ≤ 36; omega)⟩ ?_
          refine lv_iconst (v := 0) hx hb dL_act_353 (by decide) ?_
          refine hwS (As := [.ref (aa 0), .int 6, .int 5000, .int (lLow (lSh v 6) 11000), .int 0]) (rest := []) ⟨hx, hb, hml, hown, hts⟩ (c_L_does_6_2 l D z q (aa 0) (aa 1) (aa 6) (aa 15) (aa 17) (aa 22) (aa 25) (aa 27) dy (aa 7) (aa 8) (aa 9) (aa 10) (aa 11) (aa 12) (aa 13) (aa 14) ct ti sh pr wt wh 5000 (lLow (lSh v 6) 11000) 0 H.size e0 e1 hlt) (vx_cwSW 5 hts gL_act_L_does rfl rfl rfl hd_L_does ⟨Nat.le_of_ble_eq_true rfl, Nat.le_of_ble_eq_true rfl⟩) hE hS hA hP hD [0, 6, 7, 8, 9, 10, 11, 12, 13, 14] rfl rfl rfl rfl hl.1 rfl (Nat.le_of_ble_eq_true rfl) dL_act_354 ⟨(by show 0 + 3 ≤ 6; omega), (by show 0 + 18 ≤ 36; omega)⟩ (fun H locs hP hD hS => ?_)
          have hP : va_P D vwCl [((aa 0), .inr (6, [.ref (aa 1), .ref (aa 6), .ref (aa 15), .ref (aa 17), .ref (aa 22), .ref (aa 25), .ref (aa 27), .int dy])), ((aa 1), .inr (0, [.ref (aa 2), .ref (aa 4)])), ((aa 2), .inr (1, [.ref (aa 3)])), ((aa 3), .inl (z 0, 26, .inl pl)), ((aa 4), .inr (1, [.ref (aa 5)])), ((aa 5), .inl (z 0, 30, .inl lo)), ((aa 6), .inr (2, [.ref (aa 7), .ref (aa 9), .ref (aa 11), .ref (aa 13), .int 5000, .int (lLow (lSh v 6) 11000)])), ((aa 7), .inr (1, [.ref (aa 8)])), ((aa 8), .inl (z 0, 26, .inl ct)), ((aa 9), .inr (1, [.ref (aa 10)])), ((aa 10), .inl (z 0, 26, .inl ti)), ((aa 11), .inr (1, [.ref (aa 12)])), ((aa 12), .inl (z 0, 26, .inl sh)), ((aa 13), .inr (1, [.ref (aa 14)])), ((aa 14), .inl (z 0, 676, .inl pr)), ((aa 15), .inr (4, [.ref (aa 16), .ref (aa 6)])), ((aa 16), .inl (z 1, 26, .inl ia)), ((aa 17), .inr (3, [.ref (aa 18), .ref (aa 20), .int zz, .int po, .int me, .int ml])), ((aa 18), .inr (1, [.ref (aa 19)])), ((aa 19), .inl (z 0, 40, .inl lt)), ((aa 20), .inr (1, [.ref (aa 21)])), ((aa 21), .inl (z 0, 40, .inl ty)), ((aa 22), .inr (5, [.ref (aa 23), .int sn])), ((aa 23), .inr (1, [.ref (aa 24)])), ((aa 24), .inl (z 0, 100, .inl kp)), ((aa 25), .inr (1, [.ref (aa 26)])), ((aa 26), .inl (z 0, 5, .inl ek)), ((aa 27), .inr (1, [.ref (aa 28)])), ((aa 28), .inl (z 0, 8, .inl ef))] H := hP
          have hD : va_D A [((aa 0), .inr (6, [.ref (aa 1), .ref (aa 6), .ref (aa 15), .ref (aa 17), .ref (aa 22), .ref (aa 25), .ref (aa 27), .int dy])), ((aa 1), .inr (0, [.ref (aa 2), .ref (aa 4)])), ((aa 2), .inr (1, [.ref (aa 3)])), ((aa 3), .inl (z 0, 26, .inl pl)), ((aa 4), .inr (1, [.ref (aa 5)])), ((aa 5), .inl (z 0, 30, .inl lo)), ((aa 6), .inr (2, [.ref (aa 7), .ref (aa 9), .ref (aa 11), .ref (aa 13), .int 5000, .int (lLow (lSh v 6) 11000)])), ((aa 7), .inr (1, [.ref (aa 8)])), ((aa 8), .inl (z 0, 26, .inl ct)), ((aa 9), .inr (1, [.ref (aa 10)])), ((aa 10), .inl (z 0, 26, .inl ti)), ((aa 11), .inr (1, [.ref (aa 12)])), ((aa 12), .inl (z 0, 26, .inl sh)), ((aa 13), .inr (1, [.ref (aa 14)])), ((aa 14), .inl (z 0, 676, .inl pr)), ((aa 15), .inr (4, [.ref (aa 16), .ref (aa 6)])), ((aa 16), .inl (z 1, 26, .inl ia)), ((aa 17), .inr (3, [.ref (aa 18), .ref (aa 20), .int zz, .int po, .int me, .int ml])), ((aa 18), .inr (1, [.ref (aa 19)])), ((aa 19), .inl (z 0, 40, .inl lt)), ((aa 20), .inr (1, [.ref (aa 21)])), ((aa 21), .inl (z 0, 40, .inl ty)), ((aa 22), .inr (5, [.ref (aa 23), .int sn])), ((aa 23), .inr (1, [.ref (aa 24)])), ((aa 24), .inl (z 0, 100, .inl kp)), ((aa 25), .inr (1, [.ref (aa 26)])), ((aa 26), .inl (z 0, 5, .inl ek)), ((aa 27), .inr (1, [.ref (aa 28)])), ((aa 28), .inl (z 0, 8, .inl ef))] := hD
          refine lv_goto (tgt := 364) hx hb dL_act_357 (by decide) ?_
          exact wr_i hx hb hr hlocks hP hD hS dL_act_364 rfl rfl (by omega) (by omega)
  · by_cases ho : odd = 0
    · by_cases e0 : bW millis 1 5000 = 0
      · refine ⟨(pl, lo, ct, ti, sh, pr, ia, lt, ty, kp, ek, ef, wt, wh, zz, po, me, ml, sn, dy), -99999, CI_mono hI, fun _ => rfl, ?_⟩
        intro p l e s m below meth c D z q aa A H locs G hP hD hS ls hl
        obtain ⟨hx, hb, hr, hml, hts, hown, hlocks, hE, hA, hlt⟩ := G
        have hP : va_P D vwCl (coL z aa pl lo ct ti sh pr ia lt ty kp ek ef wt wh zz po me ml sn dy) H := hP
        have hD : va_D A (coL z aa pl lo ct ti sh pr ia lt ty kp ek ef wt wh zz po me ml sn dy) := hD
        refine lv_iload_n hx hb dL_act_114 rfl (lv_at hl 1 rfl) ?_
        refine lv_bipush (v := 6) hx hb dL_act_115 (by decide) ?_
        refine lv_icmp_ge (tgt := 130) hx hb dL_act_117 (by decide) (fun c_1 => ?_) (fun c_1 => absurd k0 c_1)
        refine lv_iload_n hx hb dL_act_130 rfl (lv_at hl 1 rfl) ?_
        refine lv_bipush (v := 20) hx hb dL_act_131 (by decide) ?_
        refine lv_icmp_ge (tgt := 190) hx hb dL_act_133 (by decide) (fun c_2 => ?_) (fun c_2 => absurd k1 c_2)
        refine lv_iload_n hx hb dL_act_190 rfl (lv_at hl 1 rfl) ?_
        refine lv_bipush (v := 23) hx hb dL_act_191 (by decide) ?_
        refine lv_icmp_ge (tgt := 206) hx hb dL_act_193 (by decide) (fun c_3 => ?_) (fun c_3 => absurd k2 c_3)
        refine lv_iload_n hx hb dL_act_206 rfl (lv_at hl 1 rfl) ?_
        refine lv_bipush (v := 25) hx hb dL_act_207 (by decide) ?_
        refine lv_icmp_ge (tgt := 247) hx hb dL_act_209 (by decide) (fun c_4 => ?_) (fun c_4 => absurd k3 c_4)
        refine lv_iload_n hx hb dL_act_247 rfl (lv_at hl 1 rfl) ?_
        refine lv_bipush (v := 30) hx hb dL_act_248 (by decide) ?_
        refine lv_icmp_ge (tgt := 262) hx hb dL_act_250 (by decide) (fun c_5 => ?_) (fun c_5 => absurd k4 c_5)
        refine lv_iload_n hx hb dL_act_262 rfl (lv_at hl 1 rfl) ?_
        refine lv_bipush (v := 32) hx hb dL_act_263 (by decide) ?_
        refine lv_icmp_ge (tgt := 310) hx hb dL_act_265 (by decide) (fun c_6 => ?_) (fun c_6 => absurd k5 c_6)
        refine lv_iload_n hx hb dL_act_310 rfl (lv_at hl 1 rfl) ?_
        refine lv_bipush (v := 35) hx hb dL_act_311 (by decide) ?_
        refine lv_icmp_ge (tgt := 360) hx hb dL_act_313 (by decide) (fun c_7 => absurd c_7 k6) (fun c_7 => ?_)
        refine lv_aload_n hx hb dL_act_316 rfl (lv_at hl 4 rfl) ?_
        refine lv_bipush (v := 6) hx hb dL_act_317 (by decide) ?_
        refine lv_iload_n hx hb dL_act_319 rfl (lv_at hl 1 rfl) ?_
        refine lv_bipush (v := 32) hx hb dL_act_320 (by decide) ?_
        refine lv_icmp_ne (tgt := 331) hx hb dL_act_322 (by decide) (fun c_8 => ?_) (fun c_8 => absurd c_8 hw)
        refine lv_iload hx hb dL_act_331 (lv_at hl 3 rfl) ?_
        refine lv_iload_n hx hb dL_act_333 rfl (lv_at hl 5 rfl) ?_
        refine lv_bipush (v := 6) hx hb dL_act_334 (by decide) ?_
        refine lv_ishr hx hb dL_act_336 ?_
        refine lv_iload_n hx hb dL_act_337 rfl (lv_at hl 0 rfl) ?_
        refine lv_if_eq (tgt := 347) hx hb dL_act_338 (by decide) (fun c_9 => ?_) (fun c_9 => absurd ho c_9)
        refine lv_sipush (v := 10001) hx hb dL_act_347 (by decide) ?_
        refine rdS (As := [.int (lSh v 6), .int 10001]) (rest := [.int millis, .int 6, .ref (aa 0)]) ⟨hx, hb, hml, hown, hts⟩ (c_L_low l D z q (lSh v 6) 10001 (by decide)) (va_cwS 2 hts gL_act_L_low rfl rfl rfl hd_L_low ⟨Nat.le_of_ble_eq_true rfl, Nat.le_of_ble_eq_true rfl⟩) hE hS hA hP [] rfl rfl hl.1 rfl (Nat.le_of_ble_eq_true rfl) dL_act_350 ⟨(by show 0 + 0 ≤ 6; omega), (by show 0 + 0 ≤ 36; omega)⟩ ?_
        refine lv_iconst (v := 0) hx hb dL_act_353 (by decide) ?_
        refine hwS (As := [.ref (aa 0), .int 6, .int millis, .int (lLow (lSh v 6) 10001), .int 0]) (rest := []) ⟨hx, hb, hml, hown, hts⟩ (c_L_does_6_0 l D z q (aa 0) (aa 1) (aa 6) (aa 15) (aa 17) (aa 22) (aa 25) (aa 27) dy (aa 7) (aa 8) (aa 9) (aa 10) (aa 11) (aa 12) (aa 13) (aa 14) ct ti sh pr wt wh millis (lLow (lSh v 6) 10001) 0 H.size e0 hlt) (vx_cwSW 5 hts gL_act_L_does rfl rfl rfl hd_L_does ⟨Nat.le_of_ble_eq_true rfl, Nat.le_of_ble_eq_true rfl⟩) hE hS hA hP hD [0, 6, 7, 8, 9, 10, 11, 12, 13, 14] rfl rfl rfl rfl hl.1 rfl (Nat.le_of_ble_eq_true rfl) dL_act_354 ⟨(by show 0 + 3 ≤ 6; omega), (by show 0 + 18 ≤ 36; omega)⟩ (fun H locs hP hD hS => ?_)
        have hP : va_P D vwCl [((aa 0), .inr (6, [.ref (aa 1), .ref (aa 6), .ref (aa 15), .ref (aa 17), .ref (aa 22), .ref (aa 25), .ref (aa 27), .int dy])), ((aa 1), .inr (0, [.ref (aa 2), .ref (aa 4)])), ((aa 2), .inr (1, [.ref (aa 3)])), ((aa 3), .inl (z 0, 26, .inl pl)), ((aa 4), .inr (1, [.ref (aa 5)])), ((aa 5), .inl (z 0, 30, .inl lo)), ((aa 6), .inr (2, [.ref (aa 7), .ref (aa 9), .ref (aa 11), .ref (aa 13), .int wt, .int wh])), ((aa 7), .inr (1, [.ref (aa 8)])), ((aa 8), .inl (z 0, 26, .inl ct)), ((aa 9), .inr (1, [.ref (aa 10)])), ((aa 10), .inl (z 0, 26, .inl ti)), ((aa 11), .inr (1, [.ref (aa 12)])), ((aa 12), .inl (z 0, 26, .inl sh)), ((aa 13), .inr (1, [.ref (aa 14)])), ((aa 14), .inl (z 0, 676, .inl pr)), ((aa 15), .inr (4, [.ref (aa 16), .ref (aa 6)])), ((aa 16), .inl (z 1, 26, .inl ia)), ((aa 17), .inr (3, [.ref (aa 18), .ref (aa 20), .int zz, .int po, .int me, .int ml])), ((aa 18), .inr (1, [.ref (aa 19)])), ((aa 19), .inl (z 0, 40, .inl lt)), ((aa 20), .inr (1, [.ref (aa 21)])), ((aa 21), .inl (z 0, 40, .inl ty)), ((aa 22), .inr (5, [.ref (aa 23), .int sn])), ((aa 23), .inr (1, [.ref (aa 24)])), ((aa 24), .inl (z 0, 100, .inl kp)), ((aa 25), .inr (1, [.ref (aa 26)])), ((aa 26), .inl (z 0, 5, .inl ek)), ((aa 27), .inr (1, [.ref (aa 28)])), ((aa 28), .inl (z 0, 8, .inl ef))] H := hP
        have hD : va_D A [((aa 0), .inr (6, [.ref (aa 1), .ref (aa 6), .ref (aa 15), .ref (aa 17), .ref (aa 22), .ref (aa 25), .ref (aa 27), .int dy])), ((aa 1), .inr (0, [.ref (aa 2), .ref (aa 4)])), ((aa 2), .inr (1, [.ref (aa 3)])), ((aa 3), .inl (z 0, 26, .inl pl)), ((aa 4), .inr (1, [.ref (aa 5)])), ((aa 5), .inl (z 0, 30, .inl lo)), ((aa 6), .inr (2, [.ref (aa 7), .ref (aa 9), .ref (aa 11), .ref (aa 13), .int wt, .int wh])), ((aa 7), .inr (1, [.ref (aa 8)])), ((aa 8), .inl (z 0, 26, .inl ct)), ((aa 9), .inr (1, [.ref (aa 10)])), ((aa 10), .inl (z 0, 26, .inl ti)), ((aa 11), .inr (1, [.ref (aa 12)])), ((aa 12), .inl (z 0, 26, .inl sh)), ((aa 13), .inr (1, [.ref (aa 14)])), ((aa 14), .inl (z 0, 676, .inl pr)), ((aa 15), .inr (4, [.ref (aa 16), .ref (aa 6)])), ((aa 16), .inl (z 1, 26, .inl ia)), ((aa 17), .inr (3, [.ref (aa 18), .ref (aa 20), .int zz, .int po, .int me, .int ml])), ((aa 18), .inr (1, [.ref (aa 19)])), ((aa 19), .inl (z 0, 40, .inl lt)), ((aa 20), .inr (1, [.ref (aa 21)])), ((aa 21), .inl (z 0, 40, .inl ty)), ((aa 22), .inr (5, [.ref (aa 23), .int sn])), ((aa 23), .inr (1, [.ref (aa 24)])), ((aa 24), .inl (z 0, 100, .inl kp)), ((aa 25), .inr (1, [.ref (aa 26)])), ((aa 26), .inl (z 0, 5, .inl ek)), ((aa 27), .inr (1, [.ref (aa 28)])), ((aa 28), .inl (z 0, 8, .inl ef))] := hD
        refine lv_goto (tgt := 364) hx hb dL_act_357 (by decide) ?_
        exact wr_i hx hb hr hlocks hP hD hS dL_act_364 rfl rfl (by omega) (by omega)
      · by_cases e1 : bW (lLow (lSh v 6) 10001) 0 10000 = 0
        · refine ⟨(pl, lo, ct, ti, sh, pr, ia, lt, ty, kp, ek, ef, wt, wh, zz, po, me, ml, sn, dy), -99999, CI_mono hI, fun _ => rfl, ?_⟩
          intro p l e s m below meth c D z q aa A H locs G hP hD hS ls hl
          obtain ⟨hx, hb, hr, hml, hts, hown, hlocks, hE, hA, hlt⟩ := G
          have hP : va_P D vwCl (coL z aa pl lo ct ti sh pr ia lt ty kp ek ef wt wh zz po me ml sn dy) H := hP
          have hD : va_D A (coL z aa pl lo ct ti sh pr ia lt ty kp ek ef wt wh zz po me ml sn dy) := hD
          refine lv_iload_n hx hb dL_act_114 rfl (lv_at hl 1 rfl) ?_
          refine lv_bipush (v := 6) hx hb dL_act_115 (by decide) ?_
          refine lv_icmp_ge (tgt := 130) hx hb dL_act_117 (by decide) (fun c_1 => ?_) (fun c_1 => absurd k0 c_1)
          refine lv_iload_n hx hb dL_act_130 rfl (lv_at hl 1 rfl) ?_
          refine lv_bipush (v := 20) hx hb dL_act_131 (by decide) ?_
          refine lv_icmp_ge (tgt := 190) hx hb dL_act_133 (by decide) (fun c_2 => ?_) (fun c_2 => absurd k1 c_2)
          refine lv_iload_n hx hb dL_act_190 rfl (lv_at hl 1 rfl) ?_
          refine lv_bipush (v := 23) hx hb dL_act_191 (by decide) ?_
          refine lv_icmp_ge (tgt := 206) hx hb dL_act_193 (by decide) (fun c_3 => ?_) (fun c_3 => absurd k2 c_3)
          refine lv_iload_n hx hb dL_act_206 rfl (lv_at hl 1 rfl) ?_
          refine lv_bipush (v := 25) hx hb dL_act_207 (by decide) ?_
          refine lv_icmp_ge (tgt := 247) hx hb dL_act_209 (by decide) (fun c_4 => ?_) (fun c_4 => absurd k3 c_4)
          refine lv_iload_n hx hb dL_act_247 rfl (lv_at hl 1 rfl) ?_
          refine lv_bipush (v := 30) hx hb dL_act_248 (by decide) ?_
          refine lv_icmp_ge (tgt := 262) hx hb dL_act_250 (by decide) (fun c_5 => ?_) (fun c_5 => absurd k4 c_5)
          refine lv_iload_n hx hb dL_act_262 rfl (lv_at hl 1 rfl) ?_
          refine lv_bipush (v := 32) hx hb dL_act_263 (by decide) ?_
          refine lv_icmp_ge (tgt := 310) hx hb dL_act_265 (by decide) (fun c_6 => ?_) (fun c_6 => absurd k5 c_6)
          refine lv_iload_n hx hb dL_act_310 rfl (lv_at hl 1 rfl) ?_
          refine lv_bipush (v := 35) hx hb dL_act_311 (by decide) ?_
          refine lv_icmp_ge (tgt := 360) hx hb dL_act_313 (by decide) (fun c_7 => absurd c_7 k6) (fun c_7 => ?_)
          refine lv_aload_n hx hb dL_act_316 rfl (lv_at hl 4 rfl) ?_
          refine lv_bipush (v := 6) hx hb dL_act_317 (by decide) ?_
          refine lv_iload_n hx hb dL_act_319 rfl (lv_at hl 1 rfl) ?_
          refine lv_bipush (v := 32) hx hb dL_act_320 (by decide) ?_
          refine lv_icmp_ne (tgt := 331) hx hb dL_act_322 (by decide) (fun c_8 => ?_) (fun c_8 => absurd c_8 hw)
          refine lv_iload hx hb dL_act_331 (lv_at hl 3 rfl) ?_
          refine lv_iload_n hx hb dL_act_333 rfl (lv_at hl 5 rfl) ?_
          refine lv_bipush (v := 6) hx hb dL_act_334 (by decide) ?_
          refine lv_ishr hx hb dL_act_336 ?_
          refine lv_iload_n hx hb dL_act_337 rfl (lv_at hl 0 rfl) ?_
          refine lv_if_eq (tgt := 347) hx hb dL_act_338 (by decide) (fun c_9 => ?_) (fun c_9 => absurd ho c_9)
          refine lv_sipush (v := 10001) hx hb dL_act_347 (by decide) ?_
          refine rdS (As := [.int (lSh v 6), .int 10001]) (rest := [.int millis, .int 6, .ref (aa 0)]) ⟨hx, hb, hml, hown, hts⟩ (c_L_low l D z q (lSh v 6) 10001 (by decide)) (va_cwS 2 hts gL_act_L_low rfl rfl rfl hd_L_low ⟨Nat.le_of_ble_eq_true rfl, Nat.le_of_ble_eq_true rfl⟩) hE hS hA hP [] rfl rfl hl.1 rfl (Nat.le_of_ble_eq_true rfl) dL_act_350 ⟨(by show 0 + 0 ≤ 6; omega), (by show 0 + 0 ≤ 36; omega)⟩ ?_
          refine lv_iconst (v := 0) hx hb dL_act_353 (by decide) ?_
          refine hwS (As := [.ref (aa 0), .int 6, .int millis, .int (lLow (lSh v 6) 10001), .int 0]) (rest := []) ⟨hx, hb, hml, hown, hts⟩ (c_L_does_6_1 l D z q (aa 0) (aa 1) (aa 6) (aa 15) (aa 17) (aa 22) (aa 25) (aa 27) dy (aa 7) (aa 8) (aa 9) (aa 10) (aa 11) (aa 12) (aa 13) (aa 14) ct ti sh pr wt wh millis (lLow (lSh v 6) 10001) 0 H.size e0 e1 hlt) (vx_cwSW 5 hts gL_act_L_does rfl rfl rfl hd_L_does ⟨Nat.le_of_ble_eq_true rfl, Nat.le_of_ble_eq_true rfl⟩) hE hS hA hP hD [0, 6, 7, 8, 9, 10, 11, 12, 13, 14] rfl rfl rfl rfl hl.1 rfl (Nat.le_of_ble_eq_true rfl) dL_act_354 ⟨(by show 0 + 3 ≤ 6; omega), (by show 0 + 18 ≤ 36; omega)⟩ (fun H locs hP hD hS => ?_)
          have hP : va_P D vwCl [((aa 0), .inr (6, [.ref (aa 1), .ref (aa 6), .ref (aa 15), .ref (aa 17), .ref (aa 22), .ref (aa 25), .ref (aa 27), .int dy])), ((aa 1), .inr (0, [.ref (aa 2), .ref (aa 4)])), ((aa 2), .inr (1, [.ref (aa 3)])), ((aa 3), .inl (z 0, 26, .inl pl)), ((aa 4), .inr (1, [.ref (aa 5)])), ((aa 5), .inl (z 0, 30, .inl lo)), ((aa 6), .inr (2, [.ref (aa 7), .ref (aa 9), .ref (aa 11), .ref (aa 13), .int wt, .int wh])), ((aa 7), .inr (1, [.ref (aa 8)])), ((aa 8), .inl (z 0, 26, .inl ct)), ((aa 9), .inr (1, [.ref (aa 10)])), ((aa 10), .inl (z 0, 26, .inl ti)), ((aa 11), .inr (1, [.ref (aa 12)])), ((aa 12), .inl (z 0, 26, .inl sh)), ((aa 13), .inr (1, [.ref (aa 14)])), ((aa 14), .inl (z 0, 676, .inl pr)), ((aa 15), .inr (4, [.ref (aa 16), .ref (aa 6)])), ((aa 16), .inl (z 1, 26, .inl ia)), ((aa 17), .inr (3, [.ref (aa 18), .ref (aa 20), .int zz, .int po, .int me, .int ml])), ((aa 18), .inr (1, [.ref (aa 19)])), ((aa 19), .inl (z 0, 40, .inl lt)), ((aa 20), .inr (1, [.ref (aa 21)])), ((aa 21), .inl (z 0, 40, .inl ty)), ((aa 22), .inr (5, [.ref (aa 23), .int sn])), ((aa 23), .inr (1, [.ref (aa 24)])), ((aa 24), .inl (z 0, 100, .inl kp)), ((aa 25), .inr (1, [.ref (aa 26)])), ((aa 26), .inl (z 0, 5, .inl ek)), ((aa 27), .inr (1, [.ref (aa 28)])), ((aa 28), .inl (z 0, 8, .inl ef))] H := hP
          have hD : va_D A [((aa 0), .inr (6, [.ref (aa 1), .ref (aa 6), .ref (aa 15), .ref (aa 17), .ref (aa 22), .ref (aa 25), .ref (aa 27), .int dy])), ((aa 1), .inr (0, [.ref (aa 2), .ref (aa 4)])), ((aa 2), .inr (1, [.ref (aa 3)])), ((aa 3), .inl (z 0, 26, .inl pl)), ((aa 4), .inr (1, [.ref (aa 5)])), ((aa 5), .inl (z 0, 30, .inl lo)), ((aa 6), .inr (2, [.ref (aa 7), .ref (aa 9), .ref (aa 11), .ref (aa 13), .int wt, .int wh])), ((aa 7), .inr (1, [.ref (aa 8)])), ((aa 8), .inl (z 0, 26, .inl ct)), ((aa 9), .inr (1, [.ref (aa 10)])), ((aa 10), .inl (z 0, 26, .inl ti)), ((aa 11), .inr (1, [.ref (aa 12)])), ((aa 12), .inl (z 0, 26, .inl sh)), ((aa 13), .inr (1, [.ref (aa 14)])), ((aa 14), .inl (z 0, 676, .inl pr)), ((aa 15), .inr (4, [.ref (aa 16), .ref (aa 6)])), ((aa 16), .inl (z 1, 26, .inl ia)), ((aa 17), .inr (3, [.ref (aa 18), .ref (aa 20), .int zz, .int po, .int me, .int ml])), ((aa 18), .inr (1, [.ref (aa 19)])), ((aa 19), .inl (z 0, 40, .inl lt)), ((aa 20), .inr (1, [.ref (aa 21)])), ((aa 21), .inl (z 0, 40, .inl ty)), ((aa 22), .inr (5, [.ref (aa 23), .int sn])), ((aa 23), .inr (1, [.ref (aa 24)])), ((aa 24), .inl (z 0, 100, .inl kp)), ((aa 25), .inr (1, [.ref (aa 26)])), ((aa 26), .inl (z 0, 5, .inl ek)), ((aa 27), .inr (1, [.ref (aa 28)])), ((aa 28), .inl (z 0, 8, .inl ef))] := hD
          refine lv_goto (tgt := 364) hx hb dL_act_357 (by decide) ?_
          exact wr_i hx hb hr hlocks hP hD hS dL_act_364 rfl rfl (by omega) (by omega)
        · refine ⟨(pl, lo, ct, ti, sh, pr, ia, lt, ty, kp, ek, ef, millis, (lLow (lSh v 6) 10001), zz, po, me, ml, sn, dy), 0, CI_wish hI millis (lLow (lSh v 6) 10001), fun h => absurd h (by decide), ?_⟩
          intro p l e s m below meth c D z q aa A H locs G hP hD hS ls hl
          obtain ⟨hx, hb, hr, hml, hts, hown, hlocks, hE, hA, hlt⟩ := G
          have hP : va_P D vwCl (coL z aa pl lo ct ti sh pr ia lt ty kp ek ef wt wh zz po me ml sn dy) H := hP
          have hD : va_D A (coL z aa pl lo ct ti sh pr ia lt ty kp ek ef wt wh zz po me ml sn dy) := hD
          refine lv_iload_n hx hb dL_act_114 rfl (lv_at hl 1 rfl) ?_
          refine lv_bipush (v := 6) hx hb dL_act_115 (by decide) ?_
          refine lv_icmp_ge (tgt := 130) hx hb dL_act_117 (by decide) (fun c_1 => ?_) (fun c_1 => absurd k0 c_1)
          refine lv_iload_n hx hb dL_act_130 rfl (lv_at hl 1 rfl) ?_
          refine lv_bipush (v := 20) hx hb dL_act_131 (by decide) ?_
          refine lv_icmp_ge (tgt := 190) hx hb dL_act_133 (by decide) (fun c_2 => ?_) (fun c_2 => absurd k1 c_2)
          refine lv_iload_n hx hb dL_act_190 rfl (lv_at hl 1 rfl) ?_
          refine lv_bipush (v := 23) hx hb dL_act_191 (by decide) ?_
          refine lv_icmp_ge (tgt := 206) hx hb dL_act_193 (by decide) (fun c_3 => ?_) (fun c_3 => absurd k2 c_3)
          refine lv_iload_n hx hb dL_act_206 rfl (lv_at hl 1 rfl) ?_
          refine lv_bipush (v := 25) hx hb dL_act_207 (by decide) ?_
          refine lv_icmp_ge (tgt := 247) hx hb dL_act_209 (by decide) (fun c_4 => ?_) (fun c_4 => absurd k3 c_4)
          refine lv_iload_n hx hb dL_act_247 rfl (lv_at hl 1 rfl) ?_
          refine lv_bipush (v := 30) hx hb dL_act_248 (by decide) ?_
          refine lv_icmp_ge (tgt := 262) hx hb dL_act_250 (by decide) (fun c_5 => ?_) (fun c_5 => absurd k4 c_5)
          refine lv_iload_n hx hb dL_act_262 rfl (lv_at hl 1 rfl) ?_
          refine lv_bipush (v := 32) hx hb dL_act_263 (by decide) ?_
          refine lv_icmp_ge (tgt := 310) hx hb dL_act_265 (by decide) (fun c_6 => ?_) (fun c_6 => absurd k5 c_6)
          refine lv_iload_n hx hb dL_act_310 rfl (lv_at hl 1 rfl) ?_
          refine lv_bipush (v := 35) hx hb dL_act_311 (by decide) ?_
          refine lv_icmp_ge (tgt := 360) hx hb dL_act_313 (by decide) (fun c_7 => absurd c_7 k6) (fun c_7 => ?_)
          refine lv_aload_n hx hb dL_act_316 rfl (lv_at hl 4 rfl) ?_
          refine lv_bipush (v := 6) hx hb dL_act_317 (by decide) ?_
          refine lv_iload_n hx hb dL_act_319 rfl (lv_at hl 1 rfl) ?_
          refine lv_bipush (v := 32) hx hb dL_act_320 (by decide) ?_
          refine lv_icmp_ne (tgt := 331) hx hb dL_act_322 (by decide) (fun c_8 => ?_) (fun c_8 => absurd c_8 hw)
          refine lv_iload hx hb dL_act_331 (lv_at hl 3 rfl) ?_
          refine lv_iload_n hx hb dL_act_333 rfl (lv_at hl 5 rfl) ?_
          refine lv_bipush (v := 6) hx hb dL_act_334 (by decide) ?_
          refine lv_ishr hx hb dL_act_336 ?_
          refine lv_iload_n hx hb dL_act_337 rfl (lv_at hl 0 rfl) ?_
          refine lv_if_eq (tgt := 347) hx hb dL_act_338 (by decide) (fun c_9 => ?_) (fun c_9 => absurd ho c_9)
          refine lv_sipush (v := 10001) hx hb dL_act_347 (by decide) ?_
          refine rdS (As := [.int (lSh v 6), .int 10001]) (rest := [.int millis, .int 6, .ref (aa 0)]) ⟨hx, hb, hml, hown, hts⟩ (c_L_low l D z q (lSh v 6) 10001 (by decide)) (va_cwS 2 hts gL_act_L_low rfl rfl rfl hd_L_low ⟨Nat.le_of_ble_eq_true rfl, Nat.le_of_ble_eq_true rfl⟩) hE hS hA hP [] rfl rfl hl.1 rfl (Nat.le_of_ble_eq_true rfl) dL_act_350 ⟨(by show 0 + 0 ≤ 6; omega), (by show 0 + 0 ≤ 36; omega)⟩ ?_
          refine lv_iconst (v := 0) hx hb dL_act_353 (by decide) ?_
          refine hwS (As := [.ref (aa 0), .int 6, .int millis, .int (lLow (lSh v 6) 10001), .int 0]) (rest := []) ⟨hx, hb, hml, hown, hts⟩ (c_L_does_6_2 l D z q (aa 0) (aa 1) (aa 6) (aa 15) (aa 17) (aa 22) (aa 25) (aa 27) dy (aa 7) (aa 8) (aa 9) (aa 10) (aa 11) (aa 12) (aa 13) (aa 14) ct ti sh pr wt wh millis (lLow (lSh v 6) 10001) 0 H.size e0 e1 hlt) (vx_cwSW 5 hts gL_act_L_does rfl rfl rfl hd_L_does ⟨Nat.le_of_ble_eq_true rfl, Nat.le_of_ble_eq_true rfl⟩) hE hS hA hP hD [0, 6, 7, 8, 9, 10, 11, 12, 13, 14] rfl rfl rfl rfl hl.1 rfl (Nat.le_of_ble_eq_true rfl) dL_act_354 ⟨(by show 0 + 3 ≤ 6; omega), (by show 0 + 18 ≤ 36; omega)⟩ (fun H locs hP hD hS => ?_)
          have hP : va_P D vwCl [((aa 0), .inr (6, [.ref (aa 1), .ref (aa 6), .ref (aa 15), .ref (aa 17), .ref (aa 22), .ref (aa 25), .ref (aa 27), .int dy])), ((aa 1), .inr (0, [.ref (aa 2), .ref (aa 4)])), ((aa 2), .inr (1, [.ref (aa 3)])), ((aa 3), .inl (z 0, 26, .inl pl)), ((aa 4), .inr (1, [.ref (aa 5)])), ((aa 5), .inl (z 0, 30, .inl lo)), ((aa 6), .inr (2, [.ref (aa 7), .ref (aa 9), .ref (aa 11), .ref (aa 13), .int millis, .int (lLow (lSh v 6) 10001)])), ((aa 7), .inr (1, [.ref (aa 8)])), ((aa 8), .inl (z 0, 26, .inl ct)), ((aa 9), .inr (1, [.ref (aa 10)])), ((aa 10), .inl (z 0, 26, .inl ti)), ((aa 11), .inr (1, [.ref (aa 12)])), ((aa 12), .inl (z 0, 26, .inl sh)), ((aa 13), .inr (1, [.ref (aa 14)])), ((aa 14), .inl (z 0, 676, .inl pr)), ((aa 15), .inr (4, [.ref (aa 16), .ref (aa 6)])), ((aa 16), .inl (z 1, 26, .inl ia)), ((aa 17), .inr (3, [.ref (aa 18), .ref (aa 20), .int zz, .int po, .int me, .int ml])), ((aa 18), .inr (1, [.ref (aa 19)])), ((aa 19), .inl (z 0, 40, .inl lt)), ((aa 20), .inr (1, [.ref (aa 21)])), ((aa 21), .inl (z 0, 40, .inl ty)), ((aa 22), .inr (5, [.ref (aa 23), .int sn])), ((aa 23), .inr (1, [.ref (aa 24)])), ((aa 24), .inl (z 0, 100, .inl kp)), ((aa 25), .inr (1, [.ref (aa 26)])), ((aa 26), .inl (z 0, 5, .inl ek)), ((aa 27), .inr (1, [.ref (aa 28)])), ((aa 28), .inl (z 0, 8, .inl ef))] H := hP
          have hD : va_D A [((aa 0), .inr (6, [.ref (aa 1), .ref (aa 6), .ref (aa 15), .ref (aa 17), .ref (aa 22), .ref (aa 25), .ref (aa 27), .int dy])), ((aa 1), .inr (0, [.ref (aa 2), .ref (aa 4)])), ((aa 2), .inr (1, [.ref (aa 3)])), ((aa 3), .inl (z 0, 26, .inl pl)), ((aa 4), .inr (1, [.ref (aa 5)])), ((aa 5), .inl (z 0, 30, .inl lo)), ((aa 6), .inr (2, [.ref (aa 7), .ref (aa 9), .ref (aa 11), .ref (aa 13), .int millis, .int (lLow (lSh v 6) 10001)])), ((aa 7), .inr (1, [.ref (aa 8)])), ((aa 8), .inl (z 0, 26, .inl ct)), ((aa 9), .inr (1, [.ref (aa 10)])), ((aa 10), .inl (z 0, 26, .inl ti)), ((aa 11), .inr (1, [.ref (aa 12)])), ((aa 12), .inl (z 0, 26, .inl sh)), ((aa 13), .inr (1, [.ref (aa 14)])), ((aa 14), .inl (z 0, 676, .inl pr)), ((aa 15), .inr (4, [.ref (aa 16), .ref (aa 6)])), ((aa 16), .inl (z 1, 26, .inl ia)), ((aa 17), .inr (3, [.ref (aa 18), .ref (aa 20), .int zz, .int po, .int me, .int ml])), ((aa 18), .inr (1, [.ref (aa 19)])), ((aa 19), .inl (z 0, 40, .inl lt)), ((aa 20), .inr (1, [.ref (aa 21)])), ((aa 21), .inl (z 0, 40, .inl ty)), ((aa 22), .inr (5, [.ref (aa 23), .int sn])), ((aa 23), .inr (1, [.ref (aa 24)])), ((aa 24), .inl (z 0, 100, .inl kp)), ((aa 25), .inr (1, [.ref (aa 26)])), ((aa 26), .inl (z 0, 5, .inl ek)), ((aa 27), .inr (1, [.ref (aa 28)])), ((aa 28), .inl (z 0, 8, .inl ef))] := hD
          refine lv_goto (tgt := 364) hx hb dL_act_357 (by decide) ?_
          exact wr_i hx hb hr hlocks hP hD hS dL_act_364 rfl rfl (by omega) (by omega)
    · by_cases e0 : bW millis 1 5000 = 0
      · refine ⟨(pl, lo, ct, ti, sh, pr, ia, lt, ty, kp, ek, ef, wt, wh, zz, po, me, ml, sn, dy), -99999, CI_mono hI, fun _ => rfl, ?_⟩
        intro p l e s m below meth c D z q aa A H locs G hP hD hS ls hl
        obtain ⟨hx, hb, hr, hml, hts, hown, hlocks, hE, hA, hlt⟩ := G
        have hP : va_P D vwCl (coL z aa pl lo ct ti sh pr ia lt ty kp ek ef wt wh zz po me ml sn dy) H := hP
        have hD : va_D A (coL z aa pl lo ct ti sh pr ia lt ty kp ek ef wt wh zz po me ml sn dy) := hD
        refine lv_iload_n hx hb dL_act_114 rfl (lv_at hl 1 rfl) ?_
        refine lv_bipush (v := 6) hx hb dL_act_115 (by decide) ?_
        refine lv_icmp_ge (tgt := 130) hx hb dL_act_117 (by decide) (fun c_1 => ?_) (fun c_1 => absurd k0 c_1)
        refine lv_iload_n hx hb dL_act_130 rfl (lv_at hl 1 rfl) ?_
        refine lv_bipush (v := 20) hx hb dL_act_131 (by decide) ?_
        refine lv_icmp_ge (tgt := 190) hx hb dL_act_133 (by decide) (fun c_2 => ?_) (fun c_2 => absurd k1 c_2)
        refine lv_iload_n hx hb dL_act_190 rfl (lv_at hl 1 rfl) ?_
        refine lv_bipush (v := 23) hx hb dL_act_191 (by decide) ?_
        refine lv_icmp_ge (tgt := 206) hx hb dL_act_193 (by decide) (fun c_3 => ?_) (fun c_3 => absurd k2 c_3)
        refine lv_iload_n hx hb dL_act_206 rfl (lv_at hl 1 rfl) ?_
        refine lv_bipush (v := 25) hx hb dL_act_207 (by decide) ?_
        refine lv_icmp_ge (tgt := 247) hx hb dL_act_209 (by decide) (fun c_4 => ?_) (fun c_4 => absurd k3 c_4)
        refine lv_iload_n hx hb dL_act_247 rfl (lv_at hl 1 rfl) ?_
        refine lv_bipush (v := 30) hx hb dL_act_248 (by decide) ?_
        refine lv_icmp_ge (tgt := 262) hx hb dL_act_250 (by decide) (fun c_5 => ?_) (fun c_5 => absurd k4 c_5)
        refine lv_iload_n hx hb dL_act_262 rfl (lv_at hl 1 rfl) ?_
        refine lv_bipush (v := 32) hx hb dL_act_263 (by decide) ?_
        refine lv_icmp_ge (tgt := 310) hx hb dL_act_265 (by decide) (fun c_6 => ?_) (fun c_6 => absurd k5 c_6)
        refine lv_iload_n hx hb dL_act_310 rfl (lv_at hl 1 rfl) ?_
        refine lv_bipush (v := 35) hx hb dL_act_311 (by decide) ?_
        refine lv_icmp_ge (tgt := 360) hx hb dL_act_313 (by decide) (fun c_7 => absurd c_7 k6) (fun c_7 => ?_)
        refine lv_aload_n hx hb dL_act_316 rfl (lv_at hl 4 rfl) ?_
        refine lv_bipush (v := 6) hx hb dL_act_317 (by decide) ?_
        refine lv_iload_n hx hb dL_act_319 rfl (lv_at hl 1 rfl) ?_
        refine lv_bipush (v := 32) hx hb dL_act_320 (by decide) ?_
        refine lv_icmp_ne (tgt := 331) hx hb dL_act_322 (by decide) (fun c_8 => ?_) (fun c_8 => absurd c_8 hw)
        refine lv_iload hx hb dL_act_331 (lv_at hl 3 rfl) ?_
        refine lv_iload_n hx hb dL_act_333 rfl (lv_at hl 5 rfl) ?_
        refine lv_bipush (v := 6) hx hb dL_act_334 (by decide) ?_
        refine lv_ishr hx hb dL_act_336 ?_
        refine lv_iload_n hx hb dL_act_337 rfl (lv_at hl 0 rfl) ?_
        refine lv_if_eq (tgt := 347) hx hb dL_act_338 (by decide) (fun c_9 => absurd c_9 ho) (fun c_9 => ?_)
        refine lv_sipush (v := 11000) hx hb dL_act_341 (by decide) ?_
        refine lv_goto (tgt := 350) hx hb dL_act_344 (by decide) ?_
        refine rdS (As := [.int (lSh v 6), .int 11000]) (rest := [.int millis, .int 6, .ref (aa 0)]) ⟨hx, hb, hml, hown, hts⟩ (c_L_low l D z q (lSh v 6) 11000 (by decide)) (va_cwS 2 hts gL_act_L_low rfl rfl rfl hd_L_low ⟨Nat.le_of_ble_eq_true rfl, Nat.le_of_ble_eq_true rfl⟩) hE hS hA hP [] rfl rfl hl.1 rfl (Nat.le_of_ble_eq_true rfl) dL_act_350 ⟨(by show 0 + 0 ≤ 6; omega), (by show 0 + 0 ≤ 36; omega)⟩ ?_
        refine lv_iconst (v := 0) hx hb dL_act_353 (by decide) ?_
        refine hwS (As := [.ref (aa 0), .int 6, .int millis, .int (lLow (lSh v 6) 11000), .int 0]) (rest := []) ⟨hx, hb, hml, hown, hts⟩ (c_L_does_6_0 l D z q (aa 0) (aa 1) (aa 6) (aa 15) (aa 17) (aa 22) (aa 25) (aa 27) dy (aa 7) (aa 8) (aa 9) (aa 10) (aa 11) (aa 12) (aa 13) (aa 14) ct ti sh pr wt wh millis (lLow (lSh v 6) 11000) 0 H.size e0 hlt) (vx_cwSW 5 hts gL_act_L_does rfl rfl rfl hd_L_does ⟨Nat.le_of_ble_eq_true rfl, Nat.le_of_ble_eq_true rfl⟩) hE hS hA hP hD [0, 6, 7, 8, 9, 10, 11, 12, 13, 14] rfl rfl rfl rfl hl.1 rfl (Nat.le_of_ble_eq_true rfl) dL_act_354 ⟨(by show 0 + 3 ≤ 6; omega), (by show 0 + 18 ≤ 36; omega)⟩ (fun H locs hP hD hS => ?_)
        have hP : va_P D vwCl [((aa 0), .inr (6, [.ref (aa 1), .ref (aa 6), .ref (aa 15), .ref (aa 17), .ref (aa 22), .ref (aa 25), .ref (aa 27), .int dy])), ((aa 1), .inr (0, [.ref (aa 2), .ref (aa 4)])), ((aa 2), .inr (1, [.ref (aa 3)])), ((aa 3), .inl (z 0, 26, .inl pl)), ((aa 4), .inr (1, [.ref (aa 5)])), ((aa 5), .inl (z 0, 30, .inl lo)), ((aa 6), .inr (2, [.ref (aa 7), .ref (aa 9), .ref (aa 11), .ref (aa 13), .int wt, .int wh])), ((aa 7), .inr (1, [.ref (aa 8)])), ((aa 8), .inl (z 0, 26, .inl ct)), ((aa 9), .inr (1, [.ref (aa 10)])), ((aa 10), .inl (z 0, 26, .inl ti)), ((aa 11), .inr (1, [.ref (aa 12)])), ((aa 12), .inl (z 0, 26, .inl sh)), ((aa 13), .inr (1, [.ref (aa 14)])), ((aa 14), .inl (z 0, 676, .inl pr)), ((aa 15), .inr (4, [.ref (aa 16), .ref (aa 6)])), ((aa 16), .inl (z 1, 26, .inl ia)), ((aa 17), .inr (3, [.ref (aa 18), .ref (aa 20), .int zz, .int po, .int me, .int ml])), ((aa 18), .inr (1, [.ref (aa 19)])), ((aa 19), .inl (z 0, 40, .inl lt)), ((aa 20), .inr (1, [.ref (aa 21)])), ((aa 21), .inl (z 0, 40, .inl ty)), ((aa 22), .inr (5, [.ref (aa 23), .int sn])), ((aa 23), .inr (1, [.ref (aa 24)])), ((aa 24), .inl (z 0, 100, .inl kp)), ((aa 25), .inr (1, [.ref (aa 26)])), ((aa 26), .inl (z 0, 5, .inl ek)), ((aa 27), .inr (1, [.ref (aa 28)])), ((aa 28), .inl (z 0, 8, .inl ef))] H := hP
        have hD : va_D A [((aa 0), .inr (6, [.ref (aa 1), .ref (aa 6), .ref (aa 15), .ref (aa 17), .ref (aa 22), .ref (aa 25), .ref (aa 27), .int dy])), ((aa 1), .inr (0, [.ref (aa 2), .ref (aa 4)])), ((aa 2), .inr (1, [.ref (aa 3)])), ((aa 3), .inl (z 0, 26, .inl pl)), ((aa 4), .inr (1, [.ref (aa 5)])), ((aa 5), .inl (z 0, 30, .inl lo)), ((aa 6), .inr (2, [.ref (aa 7), .ref (aa 9), .ref (aa 11), .ref (aa 13), .int wt, .int wh])), ((aa 7), .inr (1, [.ref (aa 8)])), ((aa 8), .inl (z 0, 26, .inl ct)), ((aa 9), .inr (1, [.ref (aa 10)])), ((aa 10), .inl (z 0, 26, .inl ti)), ((aa 11), .inr (1, [.ref (aa 12)])), ((aa 12), .inl (z 0, 26, .inl sh)), ((aa 13), .inr (1, [.ref (aa 14)])), ((aa 14), .inl (z 0, 676, .inl pr)), ((aa 15), .inr (4, [.ref (aa 16), .ref (aa 6)])), ((aa 16), .inl (z 1, 26, .inl ia)), ((aa 17), .inr (3, [.ref (aa 18), .ref (aa 20), .int zz, .int po, .int me, .int ml])), ((aa 18), .inr (1, [.ref (aa 19)])), ((aa 19), .inl (z 0, 40, .inl lt)), ((aa 20), .inr (1, [.ref (aa 21)])), ((aa 21), .inl (z 0, 40, .inl ty)), ((aa 22), .inr (5, [.ref (aa 23), .int sn])), ((aa 23), .inr (1, [.ref (aa 24)])), ((aa 24), .inl (z 0, 100, .inl kp)), ((aa 25), .inr (1, [.ref (aa 26)])), ((aa 26), .inl (z 0, 5, .inl ek)), ((aa 27), .inr (1, [.ref (aa 28)])), ((aa 28), .inl (z 0, 8, .inl ef))] := hD
        refine lv_goto (tgt := 364) hx hb dL_act_357 (by decide) ?_
        exact wr_i hx hb hr hlocks hP hD hS dL_act_364 rfl rfl (by omega) (by omega)
      · by_cases e1 : bW (lLow (lSh v 6) 11000) 0 10000 = 0
        · refine ⟨(pl, lo, ct, ti, sh, pr, ia, lt, ty, kp, ek, ef, wt, wh, zz, po, me, ml, sn, dy), -99999, CI_mono hI, fun _ => rfl, ?_⟩
          intro p l e s m below meth c D z q aa A H locs G hP hD hS ls hl
          obtain ⟨hx, hb, hr, hml, hts, hown, hlocks, hE, hA, hlt⟩ := G
          have hP : va_P D vwCl (coL z aa pl lo ct ti sh pr ia lt ty kp ek ef wt wh zz po me ml sn dy) H := hP
          have hD : va_D A (coL z aa pl lo ct ti sh pr ia lt ty kp ek ef wt wh zz po me ml sn dy) := hD
          refine lv_iload_n hx hb dL_act_114 rfl (lv_at hl 1 rfl) ?_
          refine lv_bipush (v := 6) hx hb dL_act_115 (by decide) ?_
          refine lv_icmp_ge (tgt := 130) hx hb dL_act_117 (by decide) (fun c_1 => ?_) (fun c_1 => absurd k0 c_1)
          refine lv_iload_n hx hb dL_act_130 rfl (lv_at hl 1 rfl) ?_
          refine lv_bipush (v := 20) hx hb dL_act_131 (by decide) ?_
          refine lv_icmp_ge (tgt := 190) hx hb dL_act_133 (by decide) (fun c_2 => ?_) (fun c_2 => absurd k1 c_2)
          refine lv_iload_n hx hb dL_act_190 rfl (lv_at hl 1 rfl) ?_
          refine lv_bipush (v := 23) hx hb dL_act_191 (by decide) ?_
          refine lv_icmp_ge (tgt := 206) hx hb dL_act_193 (by decide) (fun c_3 => ?_) (fun c_3 => absurd k2 c_3)
          refine lv_iload_n hx hb dL_act_206 rfl (lv_at hl 1 rfl) ?_
          refine lv_bipush (v := 25) hx hb dL_act_207 (by decide) ?_
          refine lv_icmp_ge (tgt := 247) hx hb dL_act_209 (by decide) (fun c_4 => ?_) (fun c_4 => absurd k3 c_4)
          refine lv_iload_n hx hb dL_act_247 rfl (lv_at hl 1 rfl) ?_
          refine lv_bipush (v := 30) hx hb dL_act_248 (by decide) ?_
          refine lv_icmp_ge (tgt := 262) hx hb dL_act_250 (by decide) (fun c_5 => ?_) (fun c_5 => absurd k4 c_5)
          refine lv_iload_n hx hb dL_act_262 rfl (lv_at hl 1 rfl) ?_
          refine lv_bipush (v := 32) hx hb dL_act_263 (by decide) ?_
          refine lv_icmp_ge (tgt := 310) hx hb dL_act_265 (by decide) (fun c_6 => ?_) (fun c_6 => absurd k5 c_6)
          refine lv_iload_n hx hb dL_act_310 rfl (lv_at hl 1 rfl) ?_
          refine lv_bipush (v := 35) hx hb dL_act_311 (by decide) ?_
          refine lv_icmp_ge (tgt := 360) hx hb dL_act_313 (by decide) (fun c_7 => absurd c_7 k6) (fun c_7 => ?_)
          refine lv_aload_n hx hb dL_act_316 rfl (lv_at hl 4 rfl) ?_
          refine lv_bipush (v := 6) hx hb dL_act_317 (by decide) ?_
          refine lv_iload_n hx hb dL_act_319 rfl (lv_at hl 1 rfl) ?_
          refine lv_bipush (v := 32) hx hb dL_act_320 (by decide) ?_
          refine lv_icmp_ne (tgt := 331) hx hb dL_act_322 (by decide) (fun c_8 => ?_) (fun c_8 => absurd c_8 hw)
          refine lv_iload hx hb dL_act_331 (lv_at hl 3 rfl) ?_
          refine lv_iload_n hx hb dL_act_333 rfl (lv_at hl 5 rfl) ?_
          refine lv_bipush (v := 6) hx hb dL_act_334 (by decide) ?_
          refine lv_ishr hx hb dL_act_336 ?_
          refine lv_iload_n hx hb dL_act_337 rfl (lv_at hl 0 rfl) ?_
          refine lv_if_eq (tgt := 347) hx hb dL_act_338 (by decide) (fun c_9 => absurd c_9 ho) (fun c_9 => ?_)
          refine lv_sipush (v := 11000) hx hb dL_act_341 (by decide) ?_
          refine lv_goto (tgt := 350) hx hb dL_act_344 (by decide) ?_
          refine rdS (As := [.int (lSh v 6), .int 11000]) (rest := [.int millis, .int 6, .ref (aa 0)]) ⟨hx, hb, hml, hown, hts⟩ (c_L_low l D z q (lSh v 6) 11000 (by decide)) (va_cwS 2 hts gL_act_L_low rfl rfl rfl hd_L_low ⟨Nat.le_of_ble_eq_true rfl, Nat.le_of_ble_eq_true rfl⟩) hE hS hA hP [] rfl rfl hl.1 rfl (Nat.le_of_ble_eq_true rfl) dL_act_350 ⟨(by show 0 + 0 ≤ 6; omega), (by show 0 + 0 ≤ 36; omega)⟩ ?_
          refine lv_iconst (v := 0) hx hb dL_act_353 (by decide) ?_
          refine hwS (As := [.ref (aa 0), .int 6, .int millis, .int (lLow (lSh v 6) 11000), .int 0]) (rest := []) ⟨hx, hb, hml, hown, hts⟩ (c_L_does_6_1 l D z q (aa 0) (aa 1) (aa 6) (aa 15) (aa 17) (aa 22) (aa 25) (aa 27) dy (aa 7) (aa 8) (aa 9) (aa 10) (aa 11) (aa 12) (aa 13) (aa 14) ct ti sh pr wt wh millis (lLow (lSh v 6) 11000) 0 H.size e0 e1 hlt) (vx_cwSW 5 hts gL_act_L_does rfl rfl rfl hd_L_does ⟨Nat.le_of_ble_eq_true rfl, Nat.le_of_ble_eq_true rfl⟩) hE hS hA hP hD [0, 6, 7, 8, 9, 10, 11, 12, 13, 14] rfl rfl rfl rfl hl.1 rfl (Nat.le_of_ble_eq_true rfl) dL_act_354 ⟨(by show 0 + 3 ≤ 6; omega), (by show 0 + 18 ≤ 36; omega)⟩ (fun H locs hP hD hS => ?_)
          have hP : va_P D vwCl [((aa 0), .inr (6, [.ref (aa 1), .ref (aa 6), .ref (aa 15), .ref (aa 17), .ref (aa 22), .ref (aa 25), .ref (aa 27), .int dy])), ((aa 1), .inr (0, [.ref (aa 2), .ref (aa 4)])), ((aa 2), .inr (1, [.ref (aa 3)])), ((aa 3), .inl (z 0, 26, .inl pl)), ((aa 4), .inr (1, [.ref (aa 5)])), ((aa 5), .inl (z 0, 30, .inl lo)), ((aa 6), .inr (2, [.ref (aa 7), .ref (aa 9), .ref (aa 11), .ref (aa 13), .int wt, .int wh])), ((aa 7), .inr (1, [.ref (aa 8)])), ((aa 8), .inl (z 0, 26, .inl ct)), ((aa 9), .inr (1, [.ref (aa 10)])), ((aa 10), .inl (z 0, 26, .inl ti)), ((aa 11), .inr (1, [.ref (aa 12)])), ((aa 12), .inl (z 0, 26, .inl sh)), ((aa 13), .inr (1, [.ref (aa 14)])), ((aa 14), .inl (z 0, 676, .inl pr)), ((aa 15), .inr (4, [.ref (aa 16), .ref (aa 6)])), ((aa 16), .inl (z 1, 26, .inl ia)), ((aa 17), .inr (3, [.ref (aa 18), .ref (aa 20), .int zz, .int po, .int me, .int ml])), ((aa 18), .inr (1, [.ref (aa 19)])), ((aa 19), .inl (z 0, 40, .inl lt)), ((aa 20), .inr (1, [.ref (aa 21)])), ((aa 21), .inl (z 0, 40, .inl ty)), ((aa 22), .inr (5, [.ref (aa 23), .int sn])), ((aa 23), .inr (1, [.ref (aa 24)])), ((aa 24), .inl (z 0, 100, .inl kp)), ((aa 25), .inr (1, [.ref (aa 26)])), ((aa 26), .inl (z 0, 5, .inl ek)), ((aa 27), .inr (1, [.ref (aa 28)])), ((aa 28), .inl (z 0, 8, .inl ef))] H := hP
          have hD : va_D A [((aa 0), .inr (6, [.ref (aa 1), .ref (aa 6), .ref (aa 15), .ref (aa 17), .ref (aa 22), .ref (aa 25), .ref (aa 27), .int dy])), ((aa 1), .inr (0, [.ref (aa 2), .ref (aa 4)])), ((aa 2), .inr (1, [.ref (aa 3)])), ((aa 3), .inl (z 0, 26, .inl pl)), ((aa 4), .inr (1, [.ref (aa 5)])), ((aa 5), .inl (z 0, 30, .inl lo)), ((aa 6), .inr (2, [.ref (aa 7), .ref (aa 9), .ref (aa 11), .ref (aa 13), .int wt, .int wh])), ((aa 7), .inr (1, [.ref (aa 8)])), ((aa 8), .inl (z 0, 26, .inl ct)), ((aa 9), .inr (1, [.ref (aa 10)])), ((aa 10), .inl (z 0, 26, .inl ti)), ((aa 11), .inr (1, [.ref (aa 12)])), ((aa 12), .inl (z 0, 26, .inl sh)), ((aa 13), .inr (1, [.ref (aa 14)])), ((aa 14), .inl (z 0, 676, .inl pr)), ((aa 15), .inr (4, [.ref (aa 16), .ref (aa 6)])), ((aa 16), .inl (z 1, 26, .inl ia)), ((aa 17), .inr (3, [.ref (aa 18), .ref (aa 20), .int zz, .int po, .int me, .int ml])), ((aa 18), .inr (1, [.ref (aa 19)])), ((aa 19), .inl (z 0, 40, .inl lt)), ((aa 20), .inr (1, [.ref (aa 21)])), ((aa 21), .inl (z 0, 40, .inl ty)), ((aa 22), .inr (5, [.ref (aa 23), .int sn])), ((aa 23), .inr (1, [.ref (aa 24)])), ((aa 24), .inl (z 0, 100, .inl kp)), ((aa 25), .inr (1, [.ref (aa 26)])), ((aa 26), .inl (z 0, 5, .inl ek)), ((aa 27), .inr (1, [.ref (aa 28)])), ((aa 28), .inl (z 0, 8, .inl ef))] := hD
          refine lv_goto (tgt := 364) hx hb dL_act_357 (by decide) ?_
          exact wr_i hx hb hr hlocks hP hD hS dL_act_364 rfl rfl (by omega) (by omega)
        · refine ⟨(pl, lo, ct, ti, sh, pr, ia, lt, ty, kp, ek, ef, millis, (lLow (lSh v 6) 11000), zz, po, me, ml, sn, dy), 0, CI_wish hI millis (lLow (lSh v 6) 11000), fun h => absurd h (by decide), ?_⟩
          intro p l e s m below meth c D z q aa A H locs G hP hD hS ls hl
          obtain ⟨hx, hb, hr, hml, hts, hown, hlocks, hE, hA, hlt⟩ := G
          have hP : va_P D vwCl (coL z aa pl lo ct ti sh pr ia lt ty kp ek ef wt wh zz po me ml sn dy) H := hP
          have hD : va_D A (coL z aa pl lo ct ti sh pr ia lt ty kp ek ef wt wh zz po me ml sn dy) := hD
          refine lv_iload_n hx hb dL_act_114 rfl (lv_at hl 1 rfl) ?_
          refine lv_bipush (v := 6) hx hb dL_act_115 (by decide) ?_
          refine lv_icmp_ge (tgt := 130) hx hb dL_act_117 (by decide) (fun c_1 => ?_) (fun c_1 => absurd k0 c_1)
          refine lv_iload_n hx hb dL_act_130 rfl (lv_at hl 1 rfl) ?_
          refine lv_bipush (v := 20) hx hb dL_act_131 (by decide) ?_
          refine lv_icmp_ge (tgt := 190) hx hb dL_act_133 (by decide) (fun c_2 => ?_) (fun c_2 => absurd k1 c_2)
          refine lv_iload_n hx hb dL_act_190 rfl (lv_at hl 1 rfl) ?_
          refine lv_bipush (v := 23) hx hb dL_act_191 (by decide) ?_
          refine lv_icmp_ge (tgt := 206) hx hb dL_act_193 (by decide) (fun c_3 => ?_) (fun c_3 => absurd k2 c_3)
          refine lv_iload_n hx hb dL_act_206 rfl (lv_at hl 1 rfl) ?_
          refine lv_bipush (v := 25) hx hb dL_act_207 (by decide) ?_
          refine lv_icmp_ge (tgt := 247) hx hb dL_act_209 (by decide) (fun c_4 => ?_) (fun c_4 => absurd k3 c_4)
          refine lv_iload_n hx hb dL_act_247 rfl (lv_at hl 1 rfl) ?_
          refine lv_bipush (v := 30) hx hb dL_act_248 (by decide) ?_
          refine lv_icmp_ge (tgt := 262) hx hb dL_act_250 (by decide) (fun c_5 => ?_) (fun c_5 => absurd k4 c_5)
          refine lv_iload_n hx hb dL_act_262 rfl (lv_at hl 1 rfl) ?_
          refine lv_bipush (v := 32) hx hb dL_act_263 (by decide) ?_
          refine lv_icmp_ge (tgt := 310) hx hb dL_act_265 (by decide) (fun c_6 => ?_) (fun c_6 => absurd k5 c_6)
          refine lv_iload_n hx hb dL_act_310 rfl (lv_at hl 1 rfl) ?_
          refine lv_bipush (v := 35) hx hb dL_act_311 (by decide) ?_
          refine lv_icmp_ge (tgt := 360) hx hb dL_act_313 (by decide) (fun c_7 => absurd c_7 k6) (fun c_7 => ?_)
          refine lv_aload_n hx hb dL_act_316 rfl (lv_at hl 4 rfl) ?_
          refine lv_bipush (v := 6) hx hb dL_act_317 (by decide) ?_
          refine lv_iload_n hx hb dL_act_319 rfl (lv_at hl 1 rfl) ?_
          refine lv_bipush (v := 32) hx hb dL_act_320 (by decide) ?_
          refine lv_icmp_ne (tgt := 331) hx hb dL_act_322 (by decide) (fun c_8 => ?_) (fun c_8 => absurd c_8 hw)
          refine lv_iload hx hb dL_act_331 (lv_at hl 3 rfl) ?_
          refine lv_iload_n hx hb dL_act_333 rfl (lv_at hl 5 rfl) ?_
          refine lv_bipush (v := 6) hx hb dL_act_334 (by decide) ?_
          refine lv_ishr hx hb dL_act_336 ?_
          refine lv_iload_n hx hb dL_act_337 rfl (lv_at hl 0 rfl) ?_
          refine lv_if_eq (tgt := 347) hx hb dL_act_338 (by decide) (fun c_9 => absurd c_9 ho) (fun c_9 => ?_)
          refine lv_sipush (v := 11000) hx hb dL_act_341 (by decide) ?_
          refine lv_goto (tgt := 350) hx hb dL_act_344 (by decide) ?_
          refine rdS (As := [.int (lSh v 6), .int 11000]) (rest := [.int millis, .int 6, .ref (aa 0)]) ⟨hx, hb, hml, hown, hts⟩ (c_L_low l D z q (lSh v 6) 11000 (by decide)) (va_cwS 2 hts gL_act_L_low rfl rfl rfl hd_L_low ⟨Nat.le_of_ble_eq_true rfl, Nat.le_of_ble_eq_true rfl⟩) hE hS hA hP [] rfl rfl hl.1 rfl (Nat.le_of_ble_eq_true rfl) dL_act_350 ⟨(by show 0 + 0 ≤ 6; omega), (by show 0 + 0 ≤ 36; omega)⟩ ?_
          refine lv_iconst (v := 0) hx hb dL_act_353 (by decide) ?_
          refine hwS (As := [.ref (aa 0), .int 6, .int millis, .int (lLow (lSh v 6) 11000), .int 0]) (rest := []) ⟨hx, hb, hml, hown, hts⟩ (c_L_does_6_2 l D z q (aa 0) (aa 1) (aa 6) (aa 15) (aa 17) (aa 22) (aa 25) (aa 27) dy (aa 7) (aa 8) (aa 9) (aa 10) (aa 11) (aa 12) (aa 13) (aa 14) ct ti sh pr wt wh millis (lLow (lSh v 6) 11000) 0 H.size e0 e1 hlt) (vx_cwSW 5 hts gL_act_L_does rfl rfl rfl hd_L_does ⟨Nat.le_of_ble_eq_true rfl, Nat.le_of_ble_eq_true rfl⟩) hE hS hA hP hD [0, 6, 7, 8, 9, 10, 11, 12, 13, 14] rfl rfl rfl rfl hl.1 rfl (Nat.le_of_ble_eq_true rfl) dL_act_354 ⟨(by show 0 + 3 ≤ 6; omega), (by show 0 + 18 ≤ 36; omega)⟩ (fun H locs hP hD hS => ?_)
          have hP : va_P D vwCl [((aa 0), .inr (6, [.ref (aa 1), .ref (aa 6), .ref (aa 15), .ref (aa 17), .ref (aa 22), .ref (aa 25), .ref (aa 27), .int dy])), ((aa 1), .inr (0, [.ref (aa 2), .ref (aa 4)])), ((aa 2), .inr (1, [.ref (aa 3)])), ((aa 3), .inl (z 0, 26, .inl pl)), ((aa 4), .inr (1, [.ref (aa 5)])), ((aa 5), .inl (z 0, 30, .inl lo)), ((aa 6), .inr (2, [.ref (aa 7), .ref (aa 9), .ref (aa 11), .ref (aa 13), .int millis, .int (lLow (lSh v 6) 11000)])), ((aa 7), .inr (1, [.ref (aa 8)])), ((aa 8), .inl (z 0, 26, .inl ct)), ((aa 9), .inr (1, [.ref (aa 10)])), ((aa 10), .inl (z 0, 26, .inl ti)), ((aa 11), .inr (1, [.ref (aa 12)])), ((aa 12), .inl (z 0, 26, .inl sh)), ((aa 13), .inr (1, [.ref (aa 14)])), ((aa 14), .inl (z 0, 676, .inl pr)), ((aa 15), .inr (4, [.ref (aa 16), .ref (aa 6)])), ((aa 16), .inl (z 1, 26, .inl ia)), ((aa 17), .inr (3, [.ref (aa 18), .ref (aa 20), .int zz, .int po, .int me, .int ml])), ((aa 18), .inr (1, [.ref (aa 19)])), ((aa 19), .inl (z 0, 40, .inl lt)), ((aa 20), .inr (1, [.ref (aa 21)])), ((aa 21), .inl (z 0, 40, .inl ty)), ((aa 22), .inr (5, [.ref (aa 23), .int sn])), ((aa 23), .inr (1, [.ref (aa 24)])), ((aa 24), .inl (z 0, 100, .inl kp)), ((aa 25), .inr (1, [.ref (aa 26)])), ((aa 26), .inl (z 0, 5, .inl ek)), ((aa 27), .inr (1, [.ref (aa 28)])), ((aa 28), .inl (z 0, 8, .inl ef))] H := hP
          have hD : va_D A [((aa 0), .inr (6, [.ref (aa 1), .ref (aa 6), .ref (aa 15), .ref (aa 17), .ref (aa 22), .ref (aa 25), .ref (aa 27), .int dy])), ((aa 1), .inr (0, [.ref (aa 2), .ref (aa 4)])), ((aa 2), .inr (1, [.ref (aa 3)])), ((aa 3), .inl (z 0, 26, .inl pl)), ((aa 4), .inr (1, [.ref (aa 5)])), ((aa 5), .inl (z 0, 30, .inl lo)), ((aa 6), .inr (2, [.ref (aa 7), .ref (aa 9), .ref (aa 11), .ref (aa 13), .int millis, .int (lLow (lSh v 6) 11000)])), ((aa 7), .inr (1, [.ref (aa 8)])), ((aa 8), .inl (z 0, 26, .inl ct)), ((aa 9), .inr (1, [.ref (aa 10)])), ((aa 10), .inl (z 0, 26, .inl ti)), ((aa 11), .inr (1, [.ref (aa 12)])), ((aa 12), .inl (z 0, 26, .inl sh)), ((aa 13), .inr (1, [.ref (aa 14)])), ((aa 14), .inl (z 0, 676, .inl pr)), ((aa 15), .inr (4, [.ref (aa 16), .ref (aa 6)])), ((aa 16), .inl (z 1, 26, .inl ia)), ((aa 17), .inr (3, [.ref (aa 18), .ref (aa 20), .int zz, .int po, .int me, .int ml])), ((aa 18), .inr (1, [.ref (aa 19)])), ((aa 19), .inl (z 0, 40, .inl lt)), ((aa 20), .inr (1, [.ref (aa 21)])), ((aa 21), .inl (z 0, 40, .inl ty)), ((aa 22), .inr (5, [.ref (aa 23), .int sn])), ((aa 23), .inr (1, [.ref (aa 24)])), ((aa 24), .inl (z 0, 100, .inl kp)), ((aa 25), .inr (1, [.ref (aa 26)])), ((aa 26), .inl (z 0, 5, .inl ek)), ((aa 27), .inr (1, [.ref (aa 28)])), ((aa 28), .inl (z 0, 8, .inl ef))] := hD
          refine lv_goto (tgt := 364) hx hb dL_act_357 (by decide) ?_
          exact wr_i hx hb hr hlocks hP hD hS dL_act_364 rfl rfl (by omega) (by omega)
set_option maxHeartbeats 8000000 in
set_option maxRecDepth 100000 in
theorem act_t7 {N : Nat} {pl lo ct ti sh pr ia lt ty kp ek ef : Fn} {wt wh zz po me ml sn dy : Int32} (hI : CI N pl lo ct ti sh pr ia lt ty kp ek ef wt wh zz po me ml sn dy) (hN : N < 1000) (v odd how letter millis : Int32) (k0 : 6 ≤ how) (k1 : 20 ≤ how) (k2 : 23 ≤ how) (k3 : 25 ≤ how) (k4 : 30 ≤ how) (k5 : 32 ≤ how) (k6 : 35 ≤ how) : ∃ (S9 : Co) (a : Int32), CIN (N + 1) S9 ∧ (a = -99999 → S9 = (pl, lo, ct, ti, sh, pr, ia, lt, ty, kp, ek, ef, wt, wh, zz, po, me, ml, sn, dy)) ∧ ACTX (pl, lo, ct, ti, sh, pr, ia, lt, ty, kp, ek, ef, wt, wh, zz, po, me, ml, sn, dy) S9 a v odd how letter millis 114 := by
  have ⟨zn, hzz, hz40, hlt9, ps, hpo, hps, hty9⟩ := hI.1.2.2.2.1
  refine ⟨(pl, lo, fHalf ct 26, ti, sh, pr, ia, lt, ty, kp, ek, ef, wt, wh, zz, po, me, ml, sn, 0), dy, (CI_day hI hN).1, fun h => absurd h (CI_day hI hN).2, ?_⟩
  intro p l e s m below meth c D z q aa A H locs G hP hD hS ls hl
  obtain ⟨hx, hb, hr, hml, hts, hown, hlocks, hE, hA, hlt⟩ := G
  have hP : va_P D vwCl (coL z aa pl lo ct ti sh pr ia lt ty kp ek ef wt wh zz po me ml sn dy) H := hP
  have hD : va_D A (coL z aa pl lo ct ti sh pr ia lt ty kp ek ef wt wh zz po me ml sn dy) := hD
  refine lv_iload_n hx hb dL_act_114 rfl (lv_at hl 1 rfl) ?_
  refine lv_bipush (v := 6) hx hb dL_act_115 (by decide) ?_
  refine lv_icmp_ge (tgt := 130) hx hb dL_act_117 (by decide) (fun c_1 => ?_) (fun c_1 => absurd k0 c_1)
  refine lv_iload_n hx hb dL_act_130 rfl (lv_at hl 1 rfl) ?_
  refine lv_bipush (v := 20) hx hb dL_act_131 (by decide) ?_
  refine lv_icmp_ge (tgt := 190) hx hb dL_act_133 (by decide) (fun c_2 => ?_) (fun c_2 => absurd k1 c_2)
  refine lv_iload_n hx hb dL_act_190 rfl (lv_at hl 1 rfl) ?_
  refine lv_bipush (v := 23) hx hb dL_act_191 (by decide) ?_
  refine lv_icmp_ge (tgt := 206) hx hb dL_act_193 (by decide) (fun c_3 => ?_) (fun c_3 => absurd k2 c_3)
  refine lv_iload_n hx hb dL_act_206 rfl (lv_at hl 1 rfl) ?_
  refine lv_bipush (v := 25) hx hb dL_act_207 (by decide) ?_
  refine lv_icmp_ge (tgt := 247) hx hb dL_act_209 (by decide) (fun c_4 => ?_) (fun c_4 => absurd k3 c_4)
  refine lv_iload_n hx hb dL_act_247 rfl (lv_at hl 1 rfl) ?_
  refine lv_bipush (v := 30) hx hb dL_act_248 (by decide) ?_
  refine lv_icmp_ge (tgt := 262) hx hb dL_act_250 (by decide) (fun c_5 => ?_) (fun c_5 => absurd k4 c_5)
  refine lv_iload_n hx hb dL_act_262 rfl (lv_at hl 1 rfl) ?_
  refine lv_bipush (v := 32) hx hb dL_act_263 (by decide) ?_
  refine lv_icmp_ge (tgt := 310) hx hb dL_act_265 (by decide) (fun c_6 => ?_) (fun c_6 => absurd k5 c_6)
  refine lv_iload_n hx hb dL_act_310 rfl (lv_at hl 1 rfl) ?_
  refine lv_bipush (v := 35) hx hb dL_act_311 (by decide) ?_
  refine lv_icmp_ge (tgt := 360) hx hb dL_act_313 (by decide) (fun c_7 => ?_) (fun c_7 => absurd k6 c_7)
  refine lv_aload_n hx hb dL_act_360 rfl (lv_at hl 4 rfl) ?_
  refine wrVi (As := []) (rest := []) ⟨hx, hb, hml, hown, hts⟩ (c_X6_endDay l D z q (aa 0) (aa 1) (aa 6) (aa 15) (aa 17) (aa 22) (aa 25) (aa 27) dy (aa 7) (aa 8) (aa 9) (aa 10) (aa 11) (aa 12) (aa 13) (aa 14) ct ti sh pr wt wh H.size) (cwV 0 hts gL_act_X6_endDay rfl rfl rfl hd_X6_endDay ⟨Nat.le_of_ble_eq_true rfl, Nat.le_of_ble_eq_true rfl⟩) hE hS hA hP hD [0, 6, 7, 8, 9, 10, 11, 12, 13, 14] rfl rfl rfl rfl rfl rfl rfl hl.1 rfl (Nat.le_of_ble_eq_true rfl) dL_act_361 ⟨(by show 0 + 0 ≤ 6; omega), (by show 0 + 0 ≤ 36; omega)⟩ (fun H locs hP hD hS => ?_)
  have hP : va_P D vwCl [((aa 0), .inr (6, [.ref (aa 1), .ref (aa 6), .ref (aa 15), .ref (aa 17), .ref (aa 22), .ref (aa 25), .ref (aa 27), .int 0])), ((aa 1), .inr (0, [.ref (aa 2), .ref (aa 4)])), ((aa 2), .inr (1, [.ref (aa 3)])), ((aa 3), .inl (z 0, 26, .inl pl)), ((aa 4), .inr (1, [.ref (aa 5)])), ((aa 5), .inl (z 0, 30, .inl lo)), ((aa 6), .inr (2, [.ref (aa 7), .ref (aa 9), .ref (aa 11), .ref (aa 13), .int wt, .int wh])), ((aa 7), .inr (1, [.ref (aa 8)])), ((aa 8), .inl (z 0, 26, .inl (fHalf ct 26))), ((aa 9), .inr (1, [.ref (aa 10)])), ((aa 10), .inl (z 0, 26, .inl ti)), ((aa 11), .inr (1, [.ref (aa 12)])), ((aa 12), .inl (z 0, 26, .inl sh)), ((aa 13), .inr (1, [.ref (aa 14)])), ((aa 14), .inl (z 0, 676, .inl pr)), ((aa 15), .inr (4, [.ref (aa 16), .ref (aa 6)])), ((aa 16), .inl (z 1, 26, .inl ia)), ((aa 17), .inr (3, [.ref (aa 18), .ref (aa 20), .int zz, .int po, .int me, .int ml])), ((aa 18), .inr (1, [.ref (aa 19)])), ((aa 19), .inl (z 0, 40, .inl lt)), ((aa 20), .inr (1, [.ref (aa 21)])), ((aa 21), .inl (z 0, 40, .inl ty)), ((aa 22), .inr (5, [.ref (aa 23), .int sn])), ((aa 23), .inr (1, [.ref (aa 24)])), ((aa 24), .inl (z 0, 100, .inl kp)), ((aa 25), .inr (1, [.ref (aa 26)])), ((aa 26), .inl (z 0, 5, .inl ek)), ((aa 27), .inr (1, [.ref (aa 28)])), ((aa 28), .inl (z 0, 8, .inl ef))] H := hP
  have hD : va_D A [((aa 0), .inr (6, [.ref (aa 1), .ref (aa 6), .ref (aa 15), .ref (aa 17), .ref (aa 22), .ref (aa 25), .ref (aa 27), .int 0])), ((aa 1), .inr (0, [.ref (aa 2), .ref (aa 4)])), ((aa 2), .inr (1, [.ref (aa 3)])), ((aa 3), .inl (z 0, 26, .inl pl)), ((aa 4), .inr (1, [.ref (aa 5)])), ((aa 5), .inl (z 0, 30, .inl lo)), ((aa 6), .inr (2, [.ref (aa 7), .ref (aa 9), .ref (aa 11), .ref (aa 13), .int wt, .int wh])), ((aa 7), .inr (1, [.ref (aa 8)])), ((aa 8), .inl (z 0, 26, .inl (fHalf ct 26))), ((aa 9), .inr (1, [.ref (aa 10)])), ((aa 10), .inl (z 0, 26, .inl ti)), ((aa 11), .inr (1, [.ref (aa 12)])), ((aa 12), .inl (z 0, 26, .inl sh)), ((aa 13), .inr (1, [.ref (aa 14)])), ((aa 14), .inl (z 0, 676, .inl pr)), ((aa 15), .inr (4, [.ref (aa 16), .ref (aa 6)])), ((aa 16), .inl (z 1, 26, .inl ia)), ((aa 17), .inr (3, [.ref (aa 18), .ref (aa 20), .int zz, .int po, .int me, .int ml])), ((aa 18), .inr (1, [.ref (aa 19)])), ((aa 19), .inl (z 0, 40, .inl lt)), ((aa 20), .inr (1, [.ref (aa 21)])), ((aa 21), .inl (z 0, 40, .inl ty)), ((aa 22), .inr (5, [.ref (aa 23), .int sn])), ((aa 23), .inr (1, [.ref (aa 24)])), ((aa 24), .inl (z 0, 100, .inl kp)), ((aa 25), .inr (1, [.ref (aa 26)])), ((aa 26), .inl (z 0, 5, .inl ek)), ((aa 27), .inr (1, [.ref (aa 28)])), ((aa 28), .inl (z 0, 8, .inl ef))] := hD
  exact wr_i hx hb hr hlocks hP hD hS dL_act_364 rfl rfl (by omega) (by omega)
theorem act_tail {N : Nat} (S : Co) (hI : CIN N S) (hN : N < 1000) (v odd how letter millis : Int32) : ∃ (S9 : Co) (a : Int32), CIN (N + 1) S9 ∧ (a = -99999 → S9 = S) ∧ ACTX S S9 a v odd how letter millis 114 := by
  obtain ⟨pl, lo, ct, ti, sh, pr, ia, lt, ty, kp, ek, ef, wt, wh, zz, po, me, ml, sn, dy⟩ := S
  have hI : CI N pl lo ct ti sh pr ia lt ty kp ek ef wt wh zz po me ml sn dy := hI
  by_cases k0 : 6 ≤ how
  · by_cases k1 : 20 ≤ how
    · by_cases k2 : 23 ≤ how
      · by_cases k3 : 25 ≤ how
        · by_cases k4 : 30 ≤ how
          · by_cases k5 : 32 ≤ how
            · by_cases k6 : 35 ≤ how
              · exact act_t7 hI hN v odd how letter millis k0 k1 k2 k3 k4 k5 k6
              · exact act_t6 hI hN v odd how letter millis k0 k1 k2 k3 k4 k5 k6
            · exact act_t5 hI hN v odd how letter millis k0 k1 k2 k3 k4 k5
          · exact act_t4 hI hN v odd how letter millis k0 k1 k2 k3 k4
        · exact act_t3 hI hN v odd how letter millis k0 k1 k2 k3
      · exact act_t2 hI hN v odd how letter millis k0 k1 k2
    · exact act_t1 hI hN v odd how letter millis k0 k1
  · exact act_t0 hI hN v odd how letter millis k0
theorem act_ex {N : Nat} (S : Co) (hI : CIN N S) (hN : N < 1000) (v : Int32) : ∃ (S9 : Co) (a : Int32), CIN (N + 1) S9 ∧ (a = -99999 → S9 = S) ∧ ACT S S9 a v := by
  obtain ⟨odd, how, letter, millis, h⟩ := act_pre v
  obtain ⟨S9, a, h1, h2, h3⟩ := act_tail S hI hN v odd how letter millis
  exact ⟨S9, a, h1, h2, h S S9 a h3⟩
