/-! ===== the law's loop ===== -/
set_option maxHeartbeats 4000000 in
set_option maxRecDepth 100000 in
theorem law_sw {p : Program} {l : Launch} {e : Env} {s : State} {m : MethodId} {below : List Frame} {meth : Method} {c : Code} {D : va_G} {z : Nat → ClassId} {q aa : Nat → Nat} {b L : Nat} {xs : Nat → Int32} {i : Nat} (G : LG p l e s m below meth c D z q b L xs) (h4 : 4 * i + 4 ≤ L) (next : LAW p l e s m below meth c D z aa b 1466 (i + 1) i) : LAW p l e s m below meth c D z aa b 32 i i := by
  have G0 := G
  obtain ⟨hx, hb, hml, hown, hts, hX, hbl, hE, hlt, hL⟩ := G
  have hbA : ¬ (fun x : Nat => s.heap.size ≤ x) b := Nat.not_le_of_lt hbl
  intro pl lo ct ti sh pr ia lt ty kp ek ef ltM tyM kpM wt wh zz po me ml sn dy th ov H locs hI hP hD hS ls hl
  refine lv_aload_n hx hb dL_law_32 rfl (lv_at hl 0 rfl) ?_
  refine lv_iload hx hb dL_law_33 (lv_at hl 4 rfl) ?_
  obtain ⟨v0, hv0⟩ : ∃ v, v = xs (nI (4 * i)).toNatClampNeg := ⟨_, rfl⟩
  refine mSld hx hb hX hbl hbA hS (vp_in_nI (by omega) (by omega)) hv0 dL_law_35 ?_
  refine lv_bipush (v := 31) hx hb dL_law_36 (by decide) ?_
  refine lv_iand hx hb dL_law_38 ?_
  obtain ⟨j, hj, hj2⟩ := pk_andE v0 (m := 31) 5 rfl
  rw [hj2]
  by_cases h28 : 28 < j
  · refine lv_tableOut (tgt := 1466) hx hb dL_law_39 (Or.inr (by rw [nI_toInt (by omega)]; omega)) (by decide) ?_
    exact W.widen (by omega) (by omega) (next pl lo ct ti sh pr ia lt ty kp ek ef ltM tyM kpM wt wh zz po me ml sn dy th ov H locs (INV_mono hI) hP hD hS ls hl)
  · have hc : j = 0 ∨ j = 1 ∨ j = 2 ∨ j = 3 ∨ j = 4 ∨ j = 5 ∨ j = 6 ∨ j = 7 ∨ j = 8 ∨ j = 9 ∨ j = 10 ∨ j = 11 ∨ j = 12 ∨ j = 13 ∨ j = 14 ∨ j = 15 ∨ j = 16 ∨ j = 17 ∨ j = 18 ∨ j = 19 ∨ j = 20 ∨ j = 21 ∨ j = 22 ∨ j = 23 ∨ j = 24 ∨ j = 25 ∨ j = 26 ∨ j = 27 ∨ j = 28 := by omega
    rcases hc with rfl | rfl | rfl | rfl | rfl | rfl | rfl | rfl | rfl | rfl | rfl | rfl | rfl | rfl | rfl | rfl | rfl | rfl | rfl | rfl | rfl | rfl | rfl | rfl | rfl | rfl | rfl | rfl | rfl
    · exact lv_tableIn (off := 129) (tgt := 168) hx hb dL_law_39 (by decide) (by decide) rfl (by decide) (law_0 G0 h4 next pl lo ct ti sh pr ia lt ty kp ek ef ltM tyM kpM wt wh zz po me ml sn dy th ov H locs hI hP hD hS ls hl)
    · exact lv_tableIn (off := 209) (tgt := 248) hx hb dL_law_39 (by decide) (by decide) rfl (by decide) (law_1 G0 h4 next pl lo ct ti sh pr ia lt ty kp ek ef ltM tyM kpM wt wh zz po me ml sn dy th ov H locs hI hP hD hS ls hl)
    · exact lv_tableIn (off := 265) (tgt := 304) hx hb dL_law_39 (by decide) (by decide) rfl (by decide) (law_2 G0 h4 next pl lo ct ti sh pr ia lt ty kp ek ef ltM tyM kpM wt wh zz po me ml sn dy th ov H locs hI hP hD hS ls hl)
    · exact lv_tableIn (off := 340) (tgt := 379) hx hb dL_law_39 (by decide) (by decide) rfl (by decide) (law_3 G0 h4 next pl lo ct ti sh pr ia lt ty kp ek ef ltM tyM kpM wt wh zz po me ml sn dy th ov H locs hI hP hD hS ls hl)
    · exact lv_tableIn (off := 396) (tgt := 435) hx hb dL_law_39 (by decide) (by decide) rfl (by decide) (law_4 G0 h4 next pl lo ct ti sh pr ia lt ty kp ek ef ltM tyM kpM wt wh zz po me ml sn dy th ov H locs hI hP hD hS ls hl)
    · exact lv_tableIn (off := 452) (tgt := 491) hx hb dL_law_39 (by decide) (by decide) rfl (by decide) (law_5 G0 h4 next pl lo ct ti sh pr ia lt ty kp ek ef ltM tyM kpM wt wh zz po me ml sn dy th ov H locs hI hP hD hS ls hl)
    · exact lv_tableIn (off := 508) (tgt := 547) hx hb dL_law_39 (by decide) (by decide) rfl (by decide) (law_6 G0 h4 next pl lo ct ti sh pr ia lt ty kp ek ef ltM tyM kpM wt wh zz po me ml sn dy th ov H locs hI hP hD hS ls hl)
    · exact lv_tableIn (off := 521) (tgt := 560) hx hb dL_law_39 (by decide) (by decide) rfl (by decide) (law_7 G0 h4 next pl lo ct ti sh pr ia lt ty kp ek ef ltM tyM kpM wt wh zz po me ml sn dy th ov H locs hI hP hD hS ls hl)
    · exact lv_tableIn (off := 577) (tgt := 616) hx hb dL_law_39 (by decide) (by decide) rfl (by decide) (law_8 G0 h4 next pl lo ct ti sh pr ia lt ty kp ek ef ltM tyM kpM wt wh zz po me ml sn dy th ov H locs hI hP hD hS ls hl)
    · exact lv_tableIn (off := 590) (tgt := 629) hx hb dL_law_39 (by decide) (by decide) rfl (by decide) (law_9 G0 h4 next pl lo ct ti sh pr ia lt ty kp ek ef ltM tyM kpM wt wh zz po me ml sn dy th ov H locs hI hP hD hS ls hl)
    · exact lv_tableIn (off := 658) (tgt := 697) hx hb dL_law_39 (by decide) (by decide) rfl (by decide) (law_10 G0 h4 next pl lo ct ti sh pr ia lt ty kp ek ef ltM tyM kpM wt wh zz po me ml sn dy th ov H locs hI hP hD hS ls hl)
    · exact lv_tableIn (off := 714) (tgt := 753) hx hb dL_law_39 (by decide) (by decide) rfl (by decide) (law_11 G0 h4 next pl lo ct ti sh pr ia lt ty kp ek ef ltM tyM kpM wt wh zz po me ml sn dy th ov H locs hI hP hD hS ls hl)
    · exact lv_tableIn (off := 727) (tgt := 766) hx hb dL_law_39 (by decide) (by decide) rfl (by decide) (law_12 G0 h4 next pl lo ct ti sh pr ia lt ty kp ek ef ltM tyM kpM wt wh zz po me ml sn dy th ov H locs hI hP hD hS ls hl)
    · exact lv_tableIn (off := 740) (tgt := 779) hx hb dL_law_39 (by decide) (by decide) rfl (by decide) (law_13 G0 h4 next pl lo ct ti sh pr ia lt ty kp ek ef ltM tyM kpM wt wh zz po me ml sn dy th ov H locs hI hP hD hS ls hl)
    · exact lv_tableIn (off := 784) (tgt := 823) hx hb dL_law_39 (by decide) (by decide) rfl (by decide) (law_14 G0 h4 next pl lo ct ti sh pr ia lt ty kp ek ef ltM tyM kpM wt wh zz po me ml sn dy th ov H locs hI hP hD hS ls hl)
    · exact lv_tableIn (off := 840) (tgt := 879) hx hb dL_law_39 (by decide) (by decide) rfl (by decide) (law_15 G0 h4 next pl lo ct ti sh pr ia lt ty kp ek ef ltM tyM kpM wt wh zz po me ml sn dy th ov H locs hI hP hD hS ls hl)
    · exact lv_tableIn (off := 896) (tgt := 935) hx hb dL_law_39 (by decide) (by decide) rfl (by decide) (law_16 G0 h4 next pl lo ct ti sh pr ia lt ty kp ek ef ltM tyM kpM wt wh zz po me ml sn dy th ov H locs hI hP hD hS ls hl)
    · exact lv_tableIn (off := 952) (tgt := 991) hx hb dL_law_39 (by decide) (by decide) rfl (by decide) (law_17 G0 h4 next pl lo ct ti sh pr ia lt ty kp ek ef ltM tyM kpM wt wh zz po me ml sn dy th ov H locs hI hP hD hS ls hl)
    · exact lv_tableIn (off := 1020) (tgt := 1059) hx hb dL_law_39 (by decide) (by decide) rfl (by decide) (law_18 G0 h4 next pl lo ct ti sh pr ia lt ty kp ek ef ltM tyM kpM wt wh zz po me ml sn dy th ov H locs hI hP hD hS ls hl)
    · exact lv_tableIn (off := 1076) (tgt := 1115) hx hb dL_law_39 (by decide) (by decide) rfl (by decide) (law_19 G0 h4 next pl lo ct ti sh pr ia lt ty kp ek ef ltM tyM kpM wt wh zz po me ml sn dy th ov H locs hI hP hD hS ls hl)
    · exact lv_tableIn (off := 1132) (tgt := 1171) hx hb dL_law_39 (by decide) (by decide) rfl (by decide) (law_20 G0 h4 next pl lo ct ti sh pr ia lt ty kp ek ef ltM tyM kpM wt wh zz po me ml sn dy th ov H locs hI hP hD hS ls hl)
    · exact lv_tableIn (off := 1180) (tgt := 1219) hx hb dL_law_39 (by decide) (by decide) rfl (by decide) (law_21 G0 h4 next pl lo ct ti sh pr ia lt ty kp ek ef ltM tyM kpM wt wh zz po me ml sn dy th ov H locs hI hP hD hS ls hl)
    · exact lv_tableIn (off := 1243) (tgt := 1282) hx hb dL_law_39 (by decide) (by decide) rfl (by decide) (law_22 G0 h4 next pl lo ct ti sh pr ia lt ty kp ek ef ltM tyM kpM wt wh zz po me ml sn dy th ov H locs hI hP hD hS ls hl)
    · exact lv_tableIn (off := 1306) (tgt := 1345) hx hb dL_law_39 (by decide) (by decide) rfl (by decide) (law_23 G0 h4 next pl lo ct ti sh pr ia lt ty kp ek ef ltM tyM kpM wt wh zz po me ml sn dy th ov H locs hI hP hD hS ls hl)
    · exact lv_tableIn (off := 1319) (tgt := 1358) hx hb dL_law_39 (by decide) (by decide) rfl (by decide) (law_24 G0 h4 next pl lo ct ti sh pr ia lt ty kp ek ef ltM tyM kpM wt wh zz po me ml sn dy th ov H locs hI hP hD hS ls hl)
    · exact lv_tableIn (off := 1332) (tgt := 1371) hx hb dL_law_39 (by decide) (by decide) rfl (by decide) (law_25 G0 h4 next pl lo ct ti sh pr ia lt ty kp ek ef ltM tyM kpM wt wh zz po me ml sn dy th ov H locs hI hP hD hS ls hl)
    · exact lv_tableIn (off := 1388) (tgt := 1427) hx hb dL_law_39 (by decide) (by decide) rfl (by decide) (law_26 G0 h4 next pl lo ct ti sh pr ia lt ty kp ek ef ltM tyM kpM wt wh zz po me ml sn dy th ov H locs hI hP hD hS ls hl)
    · exact lv_tableIn (off := 1401) (tgt := 1440) hx hb dL_law_39 (by decide) (by decide) rfl (by decide) (law_27 G0 h4 next pl lo ct ti sh pr ia lt ty kp ek ef ltM tyM kpM wt wh zz po me ml sn dy th ov H locs hI hP hD hS ls hl)
    · exact lv_tableIn (off := 1414) (tgt := 1453) hx hb dL_law_39 (by decide) (by decide) rfl (by decide) (law_28 G0 h4 next pl lo ct ti sh pr ia lt ty kp ek ef ltM tyM kpM wt wh zz po me ml sn dy th ov H locs hI hP hD hS ls hl)
/-- the loop's head: to the end, or once round -/
theorem law_head {p : Program} {l : Launch} {e : Env} {s : State} {m : MethodId} {below : List Frame} {meth : Method} {c : Code} {D : va_G} {z : Nat → ClassId} {q aa : Nat → Nat} {b L : Nat} {xs : Nat → Int32} {i : Nat} (G : LG p l e s m below meth c D z q b L xs) (h4 : 4 * i ≤ L) (sw : 4 * i + 4 ≤ L → LAW p l e s m below meth c D z aa b 32 i i) (hr : meth.sig.returnType = ret) (hlocks : meth.locks = false) : LAW p l e s m below meth c D z aa b 23 i i := by
  obtain ⟨hx, hb, hml, hown, hts, hX, hbl, hE, hlt, hL⟩ := G
  have hbA : ¬ (fun x : Nat => s.heap.size ≤ x) b := Nat.not_le_of_lt hbl
  intro pl lo ct ti sh pr ia lt ty kp ek ef ltM tyM kpM wt wh zz po me ml sn dy th ov H locs hI hP hD hS ls hl
  refine lv_iload hx hb dL_law_23 (lv_at hl 4 rfl) ?_
  refine lv_aload_n hx hb dL_law_25 rfl (lv_at hl 0 rfl) ?_
  refine va_slen hx hb hX hbl hbA hS dL_law_26 ?_
  refine lv_iconst (v := 4) hx hb dL_law_27 (by decide) ?_
  refine lv_isub hx hb dL_law_28 ?_
  have he : (nI L - 4 : Int32).toInt = (L : Int) - 4 := pk_sub_toInt (a := L) (b := 4) (by omega) (by omega)
  refine lv_icmp_gt (tgt := 1472) hx hb dL_law_29 (by decide) (fun hc => ?_) (fun hc => ?_)
  · refine lv_iconst (v := 1) hx hb dL_law_1472 (by decide) ?_
    refine va_forget hS.2.2 (W.widen (k := 601024) (n := 7293034) (by omega) (by omega) ?_)
    exact lw_ret hx hb hr hlocks dL_law_1473
  · have h5 : 4 * i + 4 ≤ L := by
      have h6 : ¬ (nI L - 4 : Int32).toInt < (nI (4 * i)).toInt := fun h => hc (Int32.lt_iff_toInt_lt.mpr h)
      rw [he, nI_toInt (by omega)] at h6
      omega
    exact sw h5 pl lo ct ti sh pr ia lt ty kp ek ef ltM tyM kpM wt wh zz po me ml sn dy th ov H locs hI hP hD hS ls hl
theorem law_step {p : Program} {l : Launch} {e : Env} {s : State} {m : MethodId} {below : List Frame} {meth : Method} {c : Code} {D : va_G} {z : Nat → ClassId} {q aa : Nat → Nat} {b L : Nat} {xs : Nat → Int32} {i : Nat} (G : LG p l e s m below meth c D z q b L xs) (h4 : 4 * i + 4 ≤ L) (nx : LAW p l e s m below meth c D z aa b 23 (i + 1) (i + 1)) : LAW p l e s m below meth c D z aa b 1466 (i + 1) i := by
  obtain ⟨hx, hb, hml, hown, hts, hX, hbl, hE, hlt, hL⟩ := G
  intro pl lo ct ti sh pr ia lt ty kp ek ef ltM tyM kpM wt wh zz po me ml sn dy th ov H locs hI hP hD hS ls hl
  refine lv_iinc (v := nI (4 * (i + 1))) (lv' := [(4, .int (nI (4 * (i + 1)))), (0, .ref b), (1, .ref (aa 0)), (2, .ref (aa 29)), (3, .ref (aa 41))]) hx hb dL_law_1466 hl (k := 4) rfl (show nI (4 * i) + nI 4 = nI (4 * (i + 1)) by rw [nI_add]; rfl) (by decide) rfl (fun ls hl => ?_)
  refine lv_goto (tgt := 23) hx hb dL_law_1469 (by decide) ?_
  exact nx pl lo ct ti sh pr ia lt ty kp ek ef ltM tyM kpM wt wh zz po me ml sn dy th ov H locs hI hP hD hS ls (lv_sub hl [1, 2, 3, 4, 0] rfl)
theorem law_loop {p : Program} {l : Launch} {e : Env} {s : State} {m : MethodId} {below : List Frame} {meth : Method} {c : Code} {D : va_G} {z : Nat → ClassId} {q aa : Nat → Nat} {b L : Nat} {xs : Nat → Int32} (G : LG p l e s m below meth c D z q b L xs) (hr : meth.sig.returnType = ret) (hlocks : meth.locks = false) : ∀ (n i : Nat), 4 * i ≤ L → L < 4 * i + 4 * n → LAW p l e s m below meth c D z aa b 23 i i
  | 0, i, h1, h2 => absurd h2 (by omega)
  | n + 1, i, h1, h2 => law_head G h1 (fun h4 => law_sw G h4 (law_step G h4 (law_loop G hr hlocks n (i + 1) (by omega) (by omega)))) hr hlocks
