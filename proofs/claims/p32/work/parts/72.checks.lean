/-! ===== the check of the board ===== -/
theorem hd_L_isBoardSo : yL_isBoardSo.cls ≠ "java/lang/invoke/MethodHandle" ∧ yL_isBoardSo.cls ≠ "java/lang/invoke/VarHandle" ∧ (parseMethodDescriptor yL_isBoardSo.desc).map (fun d => d.parameters.length) = some 1 := by decide +kernel
set_option maxHeartbeats 8000000 in
set_option maxRecDepth 100000 in
/-- the board -/
theorem c_L_isBoardSo (l : Launch) (D : va_G) (z : Nat → ClassId) (q : Nat → Nat) (N : Nat) (aa : Nat → Nat) (pl : Nat → Int32) (lo : Nat → Int32) (ct : Nat → Int32) (ti : Nat → Int32) (sh : Nat → Int32) (pr : Nat → Int32) (ia : Nat → Int32) (lt : Nat → Int32) (ty : Nat → Int32) (kp : Nat → Int32) (ek : Nat → Int32) (ef : Nat → Int32) (wt : Int32) (wh : Int32) (zz : Int32) (po : Int32) (me : Int32) (ml : Int32) (sn : Int32) (dy : Int32) (sz : Nat) (hI : CI N pl lo ct ti sh pr ia lt ty kp ek ef wt wh zz po me ml sn dy) (hN : N < 400) (hlt : l.stackTraces = false) : HN l yL_isBoardSo wsL_isBoardSo ({ frames := 8, cells := 6700, slots := 40200, locals := 162 } : Room) D z q [.ref (aa 0)] [((aa 0), .inr (6, [.ref (aa 1), .ref (aa 6), .ref (aa 15), .ref (aa 17), .ref (aa 22), .ref (aa 25), .ref (aa 27), .int dy])), ((aa 1), .inr (0, [.ref (aa 2), .ref (aa 4)])), ((aa 2), .inr (1, [.ref (aa 3)])), ((aa 3), .inl (z 0, 26, .inl pl)), ((aa 4), .inr (1, [.ref (aa 5)])), ((aa 5), .inl (z 0, 30, .inl lo))] sz [((aa 0), .inr (6, [.ref (aa 1), .ref (aa 6), .ref (aa 15), .ref (aa 17), .ref (aa 22), .ref (aa 25), .ref (aa 27), .int dy])), ((aa 1), .inr (0, [.ref (aa 2), .ref (aa 4)])), ((aa 2), .inr (1, [.ref (aa 3)])), ((aa 3), .inl (z 0, 26, .inl pl)), ((aa 4), .inr (1, [.ref (aa 5)])), ((aa 5), .inl (z 0, 30, .inl lo))] (some (.int 1)) 6700 40200 := by
  refine WR_mk (Qc := fun A => QW D [((aa 0), .inr (6, [.ref (aa 1), .ref (aa 6), .ref (aa 15), .ref (aa 17), .ref (aa 22), .ref (aa 25), .ref (aa 27), .int dy])), ((aa 1), .inr (0, [.ref (aa 2), .ref (aa 4)])), ((aa 2), .inr (1, [.ref (aa 3)])), ((aa 3), .inl (z 0, 26, .inl pl)), ((aa 4), .inr (1, [.ref (aa 5)])), ((aa 5), .inl (z 0, 30, .inl lo))] A (some (.int 1))) (cc := cL_isBoardSo) (maxL := 6) (ret := (some .boolean)) (by decide) rfl (Nat.le_of_ble_eq_true rfl) ?_
  intro p e s m below meth c A hx hb hr hml hts hown hlocks hin0 H hP hD hE hS hA ls hl
  have hK := hE.1
  have hown : s.vm.findClass RL = some m.cls := hown
  have hl : lv_has ls 6 [(0, .ref (aa 0))] := hl
  refine lv_iconst (v := 1) hx hb dL_isBoardSo_0 (by decide) ?_
  refine lv_istore_n (lv' := [(1, .int 1), (0, .ref (aa 0))]) hx hb dL_isBoardSo_1 rfl hl (by decide) rfl (fun ls hl => ?_)
  refine lv_iconst (v := 0) hx hb dL_isBoardSo_2 (by decide) ?_
  refine lv_istore_n (lv' := [(2, .int 0), (1, .int 1), (0, .ref (aa 0))]) hx hb dL_isBoardSo_3 rfl hl (by decide) rfl (fun ls hl => ?_)
  have loop_1 : ∀ (n : Nat) (k : Nat), k ≤ 26 → 26 < k + n → ∀ (H : Heap) (locs : List Loc), va_P D vwCl [((aa 0), .inr (6, [.ref (aa 1), .ref (aa 6), .ref (aa 15), .ref (aa 17), .ref (aa 22), .ref (aa 25), .ref (aa 27), .int dy])), ((aa 1), .inr (0, [.ref (aa 2), .ref (aa 4)])), ((aa 2), .inr (1, [.ref (aa 3)])), ((aa 3), .inl (z 0, 26, .inl pl)), ((aa 4), .inr (1, [.ref (aa 5)])), ((aa 5), .inl (z 0, 30, .inl lo))] H → va_D A [((aa 0), .inr (6, [.ref (aa 1), .ref (aa 6), .ref (aa 15), .ref (aa 17), .ref (aa 22), .ref (aa 25), .ref (aa 27), .int dy])), ((aa 1), .inr (0, [.ref (aa 2), .ref (aa 4)])), ((aa 2), .inr (1, [.ref (aa 3)])), ((aa 3), .inl (z 0, 26, .inl pl)), ((aa 4), .inr (1, [.ref (aa 5)])), ((aa 5), .inl (z 0, 30, .inl lo))] → va_S A s.heap H locs → ∀ ls : Array Slot, lv_has ls 6 [(2, .int (nI k)), (1, .int 1), (0, .ref (aa 0))] → W p l e ({ frames := 8, cells := 6700, slots := 40200, locals := 162 } : Room) s m ([.ref (aa 0)] : List Value).toArray below meth c H locs (255 * k + 0) (1530 * k + 0) (MQ below (QW D [((aa 0), .inr (6, [.ref (aa 1), .ref (aa 6), .ref (aa 15), .ref (aa 17), .ref (aa 22), .ref (aa 25), .ref (aa 27), .int dy])), ((aa 1), .inr (0, [.ref (aa 2), .ref (aa 4)])), ((aa 2), .inr (1, [.ref (aa 3)])), ((aa 3), .inl (z 0, 26, .inl pl)), ((aa 4), .inr (1, [.ref (aa 5)])), ((aa 5), .inl (z 0, 30, .inl lo))] A (some (.int 1))) ([.ref (aa 0)] : List Value).toArray s 6700 40200 A) (F0 m 4 ls []) := by
    intro n
    induction n with
    | zero => intro k hk hf; exact absurd hf (by omega)
    | succ n ih =>
      intro k hk hf H locs hP hD hS ls hl
      refine lv_iload_n hx hb dL_isBoardSo_4 rfl (lv_at hl 0 rfl) ?_
      refine lv_bipush (v := 26) hx hb dL_isBoardSo_5 (by decide) ?_
      refine lv_icmp_ge (tgt := 187) hx hb dL_isBoardSo_7 (by decide) (fun c_2 => ?_) (fun c_2 => ?_)
      · have hk26 : k = 26 := by have := jge (a := 26) (by omega) (by omega) c_2; omega
        refine lv_iload_n hx hb dL_isBoardSo_187 rfl (lv_at hl 1 rfl) ?_
        exact wr_z hx hb hr hlocks (by decide) hP hD hS dL_isBoardSo_188 (rfl) (rfl) (by omega) (by omega)
      · have hkl : k < 26 := jlt (a := 26) (by omega) (by omega) c_2
        have hm := mir_facts hI.1.1 hkl
        have hfk := fin_in hI.1.1 hkl
        refine lv_iload_n hx hb dL_isBoardSo_10 rfl (lv_at hl 1 rfl) ?_
        refine lv_if_eq (tgt := 187) hx hb dL_isBoardSo_11 (by decide) (fun c_3 => absurd c_3 (by decide)) (fun _ => ?_)
        refine lv_aload_n hx hb dL_isBoardSo_14 rfl (lv_at hl 2 rfl) ?_
        refine lv_iload_n hx hb dL_isBoardSo_15 rfl (lv_at hl 0 rfl) ?_
        refine txR (As := [.int (nI k)]) (rest := []) ⟨hx, hb, hml, hown, hts⟩ (c_X6_mirror l D z q (aa 0) (aa 1) (aa 6) (aa 15) (aa 17) (aa 22) (aa 25) (aa 27) dy (aa 2) (aa 3) (aa 4) (aa 5) pl lo (nI k) H.size hlt) (cwV 1 hts gL_isBoardSo_X6_mirror rfl rfl rfl hd_X6_mirror ⟨Nat.le_of_ble_eq_true rfl, Nat.le_of_ble_eq_true rfl⟩) hE hS hA hP hD [0, 1, 2, 3, 4, 5] rfl rfl rfl rfl rfl rfl hl.1 rfl (Nat.le_of_ble_eq_true rfl) dL_isBoardSo_16 ⟨(by show 255 * k + 0 + 3 ≤ 6700; omega), (by show 1530 * k + 0 + 18 ≤ 40200; omega)⟩ (fun E hbd => ((bW_ok (b := 25) (by omega) (by omega)) (hbd.1) : False).elim) (fun H locs hP hD hS => ?_)
        refine lv_istore_n (lv' := [(3, .int (bMir pl lo (nI k))), (2, .int (nI k)), (1, .int 1), (0, .ref (aa 0))]) hx hb dL_isBoardSo_19 rfl hl (by decide) rfl (fun ls hl => ?_)
        refine lv_iload_n hx hb dL_isBoardSo_20 rfl (lv_at hl 0 rfl) ?_
        refine lv_iconst (v := (-1)) hx hb dL_isBoardSo_21 (by decide) ?_
        refine lv_icmp_lt (tgt := 96) hx hb dL_isBoardSo_22 (by decide) (fun c_4 => absurd c_4 (hm.1)) (fun _ => ?_)
        refine lv_iload_n hx hb dL_isBoardSo_25 rfl (lv_at hl 0 rfl) ?_
        refine lv_iload_n hx hb dL_isBoardSo_26 rfl (lv_at hl 1 rfl) ?_
        refine lv_icmp_eq (tgt := 96) hx hb dL_isBoardSo_27 (by decide) (fun c_5 => absurd c_5 (hm.2.1)) (fun _ => ?_)
        refine lv_iload_n hx hb dL_isBoardSo_30 rfl (lv_at hl 0 rfl) ?_
        refine lv_bipush (v := 26) hx hb dL_isBoardSo_31 (by decide) ?_
        refine lv_icmp_ge (tgt := 96) hx hb dL_isBoardSo_33 (by decide) (fun c_6 => absurd c_6 (hm.2.2.1)) (fun _ => ?_)
        refine lv_aload_n hx hb dL_isBoardSo_36 rfl (lv_at hl 3 rfl) ?_
        refine lv_iload_n hx hb dL_isBoardSo_37 rfl (lv_at hl 1 rfl) ?_
        refine txR (As := [.int (nI k)]) (rest := []) ⟨hx, hb, hml, hown, hts⟩ (c_X6_finger l D z q (aa 0) (aa 1) (aa 6) (aa 15) (aa 17) (aa 22) (aa 25) (aa 27) dy (aa 2) (aa 3) (aa 4) (aa 5) pl lo (nI k) H.size hlt) (cwV 1 hts gL_isBoardSo_X6_finger rfl rfl rfl hd_X6_finger ⟨Nat.le_of_ble_eq_true rfl, Nat.le_of_ble_eq_true rfl⟩) hE hS hA hP hD [0, 1, 2, 3, 4, 5] rfl rfl rfl rfl rfl rfl hl.1 rfl (Nat.le_of_ble_eq_true rfl) dL_isBoardSo_38 ⟨(by show 255 * k + 3 + 3 ≤ 6700; omega), (by show 1530 * k + 18 + 18 ≤ 40200; omega)⟩ (fun E hbd => ((bW_ok (b := 25) (by omega) (by omega)) (hbd.1) : False).elim) (fun H locs hP hD hS => ?_)
        refine lv_if_lt (tgt := 96) hx hb dL_isBoardSo_41 (by decide) (fun c_7 => absurd c_7 (hfk.1)) (fun _ => ?_)
        refine lv_aload_n hx hb dL_isBoardSo_44 rfl (lv_at hl 3 rfl) ?_
        refine lv_iload_n hx hb dL_isBoardSo_45 rfl (lv_at hl 1 rfl) ?_
        refine txR (As := [.int (nI k)]) (rest := []) ⟨hx, hb, hml, hown, hts⟩ (c_X6_finger l D z q (aa 0) (aa 1) (aa 6) (aa 15) (aa 17) (aa 22) (aa 25) (aa 27) dy (aa 2) (aa 3) (aa 4) (aa 5) pl lo (nI k) H.size hlt) (cwV 1 hts gL_isBoardSo_X6_finger rfl rfl rfl hd_X6_finger ⟨Nat.le_of_ble_eq_true rfl, Nat.le_of_ble_eq_true rfl⟩) hE hS hA hP hD [0, 1, 2, 3, 4, 5] rfl rfl rfl rfl rfl rfl hl.1 rfl (Nat.le_of_ble_eq_true rfl) dL_isBoardSo_46 ⟨(by show 255 * k + 6 + 3 ≤ 6700; omega), (by show 1530 * k + 36 + 18 ≤ 40200; omega)⟩ (fun E hbd => ((bW_ok (b := 25) (by omega) (by omega)) (hbd.1) : False).elim) (fun H locs hP hD hS => ?_)
        refine lv_bipush (v := 8) hx hb dL_isBoardSo_49 (by decide) ?_
        refine lv_icmp_ge (tgt := 96) hx hb dL_isBoardSo_51 (by decide) (fun c_8 => absurd c_8 (hfk.2)) (fun _ => ?_)
        refine lv_aload_n hx hb dL_isBoardSo_54 rfl (lv_at hl 3 rfl) ?_
        refine lv_iload_n hx hb dL_isBoardSo_55 rfl (lv_at hl 1 rfl) ?_
        refine lv_iload_n hx hb dL_isBoardSo_56 rfl (lv_at hl 1 rfl) ?_
        refine txR (As := [.int (nI k), .int (nI k)]) (rest := []) ⟨hx, hb, hml, hown, hts⟩ (c_X6_areBeside l D z q (aa 0) (aa 1) (aa 6) (aa 15) (aa 17) (aa 22) (aa 25) (aa 27) dy (aa 2) (aa 3) (aa 4) (aa 5) pl lo (nI k) (nI k) H.size hlt) (cwV 2 hts gL_isBoardSo_X6_areBeside rfl rfl rfl hd_X6_areBeside ⟨Nat.le_of_ble_eq_true rfl, Nat.le_of_ble_eq_true rfl⟩) hE hS hA hP hD [0, 1, 2, 3, 4, 5] rfl rfl rfl rfl rfl rfl hl.1 rfl (Nat.le_of_ble_eq_true rfl) dL_isBoardSo_57 ⟨(by show 255 * k + 9 + 3 ≤ 6700; omega), (by show 1530 * k + 54 + 18 ≤ 40200; omega)⟩ (fun E hbd => (hbd.elim (fun h0 => (bW_ok (b := 25) (by omega) (by omega)) (h0.1)) (fun h0 => (bW_ok (b := 25) (by omega) (by omega)) (h0.2.1)) : False).elim) (fun H locs hP hD hS => ?_)
        refine lv_if_eq (tgt := 96) hx hb dL_isBoardSo_60 (by decide) (fun c_9 => absurd c_9 (touch_self hI.1.1 hkl)) (fun _ => ?_)
        refine lv_iload_n hx hb dL_isBoardSo_63 rfl (lv_at hl 0 rfl) ?_
        refine lv_if_lt (tgt := 92) hx hb dL_isBoardSo_64 (by decide) (fun c_10 => ?_) (fun c_10 => ?_)
        · refine lv_iconst (v := 1) hx hb dL_isBoardSo_92 (by decide) ?_
          refine lv_goto (tgt := 97) hx hb dL_isBoardSo_93 (by decide) ?_
          refine lv_istore_n (lv' := [(1, .int 1), (3, .int (bMir pl lo (nI k))), (2, .int (nI k)), (0, .ref (aa 0))]) hx hb dL_isBoardSo_97 rfl hl (by decide) rfl (fun ls hl => ?_)
          refine lv_iconst (v := 0) hx hb dL_isBoardSo_98 (by decide) ?_
          refine lv_istore (lv' := [(4, .int 0), (1, .int 1), (3, .int (bMir pl lo (nI k))), (2, .int (nI k)), (0, .ref (aa 0))]) hx hb dL_isBoardSo_99 hl (by decide) rfl (fun ls hl => ?_)
          refine lv_iconst (v := 0) hx hb dL_isBoardSo_101 (by decide) ?_
          refine lv_istore (lv' := [(5, .int 0), (4, .int 0), (1, .int 1), (3, .int (bMir pl lo (nI k))), (2, .int (nI k)), (0, .ref (aa 0))]) hx hb dL_isBoardSo_102 hl (by decide) rfl (fun ls hl => ?_)
          have loop_11 : ∀ (n2 : Nat) (j : Nat), j ≤ 26 → 26 < j + n2 → ∀ (H : Heap) (locs : List Loc), va_P D vwCl [((aa 0), .inr (6, [.ref (aa 1), .ref (aa 6), .ref (aa 15), .ref (aa 17), .ref (aa 22), .ref (aa 25), .ref (aa 27), .int dy])), ((aa 1), .inr (0, [.ref (aa 2), .ref (aa 4)])), ((aa 2), .inr (1, [.ref (aa 3)])), ((aa 3), .inl (z 0, 26, .inl pl)), ((aa 4), .inr (1, [.ref (aa 5)])), ((aa 5), .inl (z 0, 30, .inl lo))] H → va_D A [((aa 0), .inr (6, [.ref (aa 1), .ref (aa 6), .ref (aa 15), .ref (aa 17), .ref (aa 22), .ref (aa 25), .ref (aa 27), .int dy])), ((aa 1), .inr (0, [.ref (aa 2), .ref (aa 4)])), ((aa 2), .inr (1, [.ref (aa 3)])), ((aa 3), .inl (z 0, 26, .inl pl)), ((aa 4), .inr (1, [.ref (aa 5)])), ((aa 5), .inl (z 0, 30, .inl lo))] → va_S A s.heap H locs → ∀ ls : Array Slot, lv_has ls 6 [(5, .int (nI j)), (4, .int (nI (cnt (tO pl k) j))), (2, .int (nI k)), (1, .int 1), (0, .ref (aa 0))] → W p l e ({ frames := 8, cells := 6700, slots := 40200, locals := 162 } : Room) s m ([.ref (aa 0)] : List Value).toArray below meth c H locs (255 * k + 9 * j + 21) (1530 * k + 54 * j + 126) (MQ below (QW D [((aa 0), .inr (6, [.ref (aa 1), .ref (aa 6), .ref (aa 15), .ref (aa 17), .ref (aa 22), .ref (aa 25), .ref (aa 27), .int dy])), ((aa 1), .inr (0, [.ref (aa 2), .ref (aa 4)])), ((aa 2), .inr (1, [.ref (aa 3)])), ((aa 3), .inl (z 0, 26, .inl pl)), ((aa 4), .inr (1, [.ref (aa 5)])), ((aa 5), .inl (z 0, 30, .inl lo))] A (some (.int 1))) ([.ref (aa 0)] : List Value).toArray s 6700 40200 A) (F0 m 104 ls []) := by
            intro n2
            induction n2 with
            | zero => intro j hj hf2; exact absurd hf2 (by omega)
            | succ n2 ih2 =>
              intro j hj hf2 H locs hP hD hS ls hl
              refine lv_iload hx hb dL_isBoardSo_104 (lv_at hl 0 rfl) ?_
              refine lv_bipush (v := 26) hx hb dL_isBoardSo_106 (by decide) ?_
              refine lv_icmp_ge (tgt := 164) hx hb dL_isBoardSo_108 (by decide) (fun c_12 => ?_) (fun c_12 => ?_)
              · have hj26 : j = 26 := by have := jge (a := 26) (by omega) (by omega) c_12; omega
                refine lv_iload_n hx hb dL_isBoardSo_164 rfl (lv_at hl 3 rfl) ?_
                refine lv_if_eq (tgt := 179) hx hb dL_isBoardSo_165 (by decide) (fun c_13 => absurd c_13 (by decide)) (fun _ => ?_)
                refine lv_iload hx hb dL_isBoardSo_168 (lv_at hl 1 rfl) ?_
                refine lv_bipush (v := 9) hx hb dL_isBoardSo_170 (by decide) ?_
                refine lv_icmp_gt (tgt := 179) hx hb dL_isBoardSo_172 (by decide) (fun c_14 => absurd c_14 (nine (by rw [hj26]; exact beside9 hI.1.1 hkl))) (fun _ => ?_)
                refine lv_iconst (v := 1) hx hb dL_isBoardSo_175 (by decide) ?_
                refine lv_goto (tgt := 180) hx hb dL_isBoardSo_176 (by decide) ?_
                refine lv_istore_n (lv' := [(1, .int 1), (5, .int (nI j)), (4, .int (nI (cnt (tO pl k) j))), (2, .int (nI k)), (0, .ref (aa 0))]) hx hb dL_isBoardSo_180 rfl hl (by decide) rfl (fun ls hl => ?_)
                refine lv_iinc (v := nI (k + 1)) (lv' := [(2, .int (nI (k + 1))), (1, .int 1), (5, .int (nI j)), (4, .int (nI (cnt (tO pl k) j))), (0, .ref (aa 0))]) hx hb dL_isBoardSo_181 hl (k := 3) rfl (nI_1 k) (by decide) rfl (fun ls hl => ?_)
                refine lv_goto (tgt := 4) hx hb dL_isBoardSo_184 (by decide) ?_
                exact W.widen (by omega) (by omega) (ih (k + 1) (by omega) (by omega) _ _ hP hD hS ls (lv_sub hl [0, 1, 4] rfl))
              · have hjl : j < 26 := jlt (a := 26) (by omega) (by omega) c_12
                refine lv_iload_n hx hb dL_isBoardSo_111 rfl (lv_at hl 3 rfl) ?_
                refine lv_if_eq (tgt := 164) hx hb dL_isBoardSo_112 (by decide) (fun c_16 => absurd c_16 (by decide)) (fun _ => ?_)
                refine lv_iload hx hb dL_isBoardSo_115 (lv_at hl 1 rfl) ?_
                refine lv_aload_n hx hb dL_isBoardSo_117 rfl (lv_at hl 4 rfl) ?_
                refine lv_iload_n hx hb dL_isBoardSo_118 rfl (lv_at hl 2 rfl) ?_
                refine lv_iload hx hb dL_isBoardSo_119 (lv_at hl 0 rfl) ?_
                refine txR (As := [.int (nI k), .int (nI j)]) (rest := [.int (nI (cnt (tO pl k) j))]) ⟨hx, hb, hml, hown, hts⟩ (c_X6_areBeside l D z q (aa 0) (aa 1) (aa 6) (aa 15) (aa 17) (aa 22) (aa 25) (aa 27) dy (aa 2) (aa 3) (aa 4) (aa 5) pl lo (nI k) (nI j) H.size hlt) (cwV 2 hts gL_isBoardSo_X6_areBeside rfl rfl rfl hd_X6_areBeside ⟨Nat.le_of_ble_eq_true rfl, Nat.le_of_ble_eq_true rfl⟩) hE hS hA hP hD [0, 1, 2, 3, 4, 5] rfl rfl rfl rfl rfl rfl hl.1 rfl (Nat.le_of_ble_eq_true rfl) dL_isBoardSo_121 ⟨(by show 255 * k + 9 * j + 21 + 3 ≤ 6700; omega), (by show 1530 * k + 54 * j + 126 + 18 ≤ 40200; omega)⟩ (fun E hbd => (hbd.elim (fun h0 => (bW_ok (b := 25) (by omega) (by omega)) (h0.1)) (fun h0 => (bW_ok (b := 25) (by omega) (by omega)) (h0.2.1)) : False).elim) (fun H locs hP hD hS => ?_)
                refine lv_if_eq (tgt := 131) hx hb dL_isBoardSo_124 (by decide) (fun c_17 => ?_) (fun c_17 => ?_)
                · refine lv_iconst (v := 0) hx hb dL_isBoardSo_131 (by decide) ?_
                  refine lv_iadd hx hb dL_isBoardSo_132 ?_
                  refine lv_istore (lv' := [(4, .int ((nI (cnt (tO pl k) j)) + 0)), (5, .int (nI j)), (2, .int (nI k)), (1, .int 1), (0, .ref (aa 0))]) hx hb dL_isBoardSo_133 hl (by decide) rfl (fun ls hl => ?_)
                  refine lv_aload_n hx hb dL_isBoardSo_135 rfl (lv_at hl 4 rfl) ?_
                  refine lv_iload_n hx hb dL_isBoardSo_136 rfl (lv_at hl 2 rfl) ?_
                  refine lv_iload hx hb dL_isBoardSo_137 (lv_at hl 1 rfl) ?_
                  refine txR (As := [.int (nI k), .int (nI j)]) (rest := []) ⟨hx, hb, hml, hown, hts⟩ (c_X6_areBeside l D z q (aa 0) (aa 1) (aa 6) (aa 15) (aa 17) (aa 22) (aa 25) (aa 27) dy (aa 2) (aa 3) (aa 4) (aa 5) pl lo (nI k) (nI j) H.size hlt) (cwV 2 hts gL_isBoardSo_X6_areBeside rfl rfl rfl hd_X6_areBeside ⟨Nat.le_of_ble_eq_true rfl, Nat.le_of_ble_eq_true rfl⟩) hE hS hA hP hD [0, 1, 2, 3, 4, 5] rfl rfl rfl rfl rfl rfl hl.1 rfl (Nat.le_of_ble_eq_true rfl) dL_isBoardSo_139 ⟨(by show 255 * k + 9 * j + 24 + 3 ≤ 6700; omega), (by show 1530 * k + 54 * j + 144 + 18 ≤ 40200; omega)⟩ (fun E hbd => (hbd.elim (fun h0 => (bW_ok (b := 25) (by omega) (by omega)) (h0.1)) (fun h0 => (bW_ok (b := 25) (by omega) (by omega)) (h0.2.1)) : False).elim) (fun H locs hP hD hS => ?_)
                  refine lv_aload_n hx hb dL_isBoardSo_142 rfl (lv_at hl 4 rfl) ?_
                  refine lv_iload hx hb dL_isBoardSo_143 (lv_at hl 1 rfl) ?_
                  refine lv_iload_n hx hb dL_isBoardSo_145 rfl (lv_at hl 2 rfl) ?_
                  refine txR (As := [.int (nI j), .int (nI k)]) (rest := [.int (bTouch pl (nI k) (nI j))]) ⟨hx, hb, hml, hown, hts⟩ (c_X6_areBeside l D z q (aa 0) (aa 1) (aa 6) (aa 15) (aa 17) (aa 22) (aa 25) (aa 27) dy (aa 2) (aa 3) (aa 4) (aa 5) pl lo (nI j) (nI k) H.size hlt) (cwV 2 hts gL_isBoardSo_X6_areBeside rfl rfl rfl hd_X6_areBeside ⟨Nat.le_of_ble_eq_true rfl, Nat.le_of_ble_eq_true rfl⟩) hE hS hA hP hD [0, 1, 2, 3, 4, 5] rfl rfl rfl rfl rfl rfl hl.1 rfl (Nat.le_of_ble_eq_true rfl) dL_isBoardSo_146 ⟨(by show 255 * k + 9 * j + 27 + 3 ≤ 6700; omega), (by show 1530 * k + 54 * j + 162 + 18 ≤ 40200; omega)⟩ (fun E hbd => (hbd.elim (fun h0 => (bW_ok (b := 25) (by omega) (by omega)) (h0.1)) (fun h0 => (bW_ok (b := 25) (by omega) (by omega)) (h0.2.1)) : False).elim) (fun H locs hP hD hS => ?_)
                  refine lv_icmp_ne (tgt := 156) hx hb dL_isBoardSo_149 (by decide) (fun c_18 => absurd (touch_sym hI.1.1 hkl hjl) c_18) (fun _ => ?_)
                  refine lv_iconst (v := 1) hx hb dL_isBoardSo_152 (by decide) ?_
                  refine lv_goto (tgt := 157) hx hb dL_isBoardSo_153 (by decide) ?_
                  refine lv_istore_n (lv' := [(1, .int 1), (4, .int ((nI (cnt (tO pl k) j)) + 0)), (5, .int (nI j)), (2, .int (nI k)), (0, .ref (aa 0))]) hx hb dL_isBoardSo_157 rfl hl (by decide) rfl (fun ls hl => ?_)
                  refine lv_iinc (v := nI (j + 1)) (lv' := [(5, .int (nI (j + 1))), (1, .int 1), (4, .int ((nI (cnt (tO pl k) j)) + 0)), (2, .int (nI k)), (0, .ref (aa 0))]) hx hb dL_isBoardSo_158 hl (k := 2) rfl (nI_1 j) (by decide) rfl (fun ls hl => ?_)
                  refine lv_goto (tgt := 104) hx hb dL_isBoardSo_161 (by decide) ?_
                  rw [cnt_s0 c_17] at hl
                  exact W.widen (by omega) (by omega) (ih2 (j + 1) (by omega) (by omega) _ _ hP hD hS ls (lv_sub hl [0, 2, 3, 1, 4] rfl))
                · refine lv_iconst (v := 1) hx hb dL_isBoardSo_127 (by decide) ?_
                  refine lv_goto (tgt := 132) hx hb dL_isBoardSo_128 (by decide) ?_
                  refine lv_iadd hx hb dL_isBoardSo_132 ?_
                  refine lv_istore (lv' := [(4, .int ((nI (cnt (tO pl k) j)) + 1)), (5, .int (nI j)), (2, .int (nI k)), (1, .int 1), (0, .ref (aa 0))]) hx hb dL_isBoardSo_133 hl (by decide) rfl (fun ls hl => ?_)
                  refine lv_aload_n hx hb dL_isBoardSo_135 rfl (lv_at hl 4 rfl) ?_
                  refine lv_iload_n hx hb dL_isBoardSo_136 rfl (lv_at hl 2 rfl) ?_
                  refine lv_iload hx hb dL_isBoardSo_137 (lv_at hl 1 rfl) ?_
                  refine txR (As := [.int (nI k), .int (nI j)]) (rest := []) ⟨hx, hb, hml, hown, hts⟩ (c_X6_areBeside l D z q (aa 0) (aa 1) (aa 6) (aa 15) (aa 17) (aa 22) (aa 25) (aa 27) dy (aa 2) (aa 3) (aa 4) (aa 5) pl lo (nI k) (nI j) H.size hlt) (cwV 2 hts gL_isBoardSo_X6_areBeside rfl rfl rfl hd_X6_areBeside ⟨Nat.le_of_ble_eq_true rfl, Nat.le_of_ble_eq_true rfl⟩) hE hS hA hP hD [0, 1, 2, 3, 4, 5] rfl rfl rfl rfl rfl rfl hl.1 rfl (Nat.le_of_ble_eq_true rfl) dL_isBoardSo_139 ⟨(by show 255 * k + 9 * j + 24 + 3 ≤ 6700; omega), (by show 1530 * k + 54 * j + 144 + 18 ≤ 40200; omega)⟩ (fun E hbd => (hbd.elim (fun h0 => (bW_ok (b := 25) (by omega) (by omega)) (h0.1)) (fun h0 => (bW_ok (b := 25) (by omega) (by omega)) (h0.2.1)) : False).elim) (fun H locs hP hD hS => ?_)
                  refine lv_aload_n hx hb dL_isBoardSo_142 rfl (lv_at hl 4 rfl) ?_
                  refine lv_iload hx hb dL_isBoardSo_143 (lv_at hl 1 rfl) ?_
                  refine lv_iload_n hx hb dL_isBoardSo_145 rfl (lv_at hl 2 rfl) ?_
                  refine txR (As := [.int (nI j), .int (nI k)]) (rest := [.int (bTouch pl (nI k) (nI j))]) ⟨hx, hb, hml, hown, hts⟩ (c_X6_areBeside l D z q (aa 0) (aa 1) (aa 6) (aa 15) (aa 17) (aa 22) (aa 25) (aa 27) dy (aa 2) (aa 3) (aa 4) (aa 5) pl lo (nI j) (nI k) H.size hlt) (cwV 2 hts gL_isBoardSo_X6_areBeside rfl rfl rfl hd_X6_areBeside ⟨Nat.le_of_ble_eq_true rfl, Nat.le_of_ble_eq_true rfl⟩) hE hS hA hP hD [0, 1, 2, 3, 4, 5] rfl rfl rfl rfl rfl rfl hl.1 rfl (Nat.le_of_ble_eq_true rfl) dL_isBoardSo_146 ⟨(by show 255 * k + 9 * j + 27 + 3 ≤ 6700; omega), (by show 1530 * k + 54 * j + 162 + 18 ≤ 40200; omega)⟩ (fun E hbd => (hbd.elim (fun h0 => (bW_ok (b := 25) (by omega) (by omega)) (h0.1)) (fun h0 => (bW_ok (b := 25) (by omega) (by omega)) (h0.2.1)) : False).elim) (fun H locs hP hD hS => ?_)
                  refine lv_icmp_ne (tgt := 156) hx hb dL_isBoardSo_149 (by decide) (fun c_20 => absurd (touch_sym hI.1.1 hkl hjl) c_20) (fun _ => ?_)
                  refine lv_iconst (v := 1) hx hb dL_isBoardSo_152 (by decide) ?_
                  refine lv_goto (tgt := 157) hx hb dL_isBoardSo_153 (by decide) ?_
                  refine lv_istore_n (lv' := [(1, .int 1), (4, .int ((nI (cnt (tO pl k) j)) + 1)), (5, .int (nI j)), (2, .int (nI k)), (0, .ref (aa 0))]) hx hb dL_isBoardSo_157 rfl hl (by decide) rfl (fun ls hl => ?_)
                  refine lv_iinc (v := nI (j + 1)) (lv' := [(5, .int (nI (j + 1))), (1, .int 1), (4, .int ((nI (cnt (tO pl k) j)) + 1)), (2, .int (nI k)), (0, .ref (aa 0))]) hx hb dL_isBoardSo_158 hl (k := 2) rfl (nI_1 j) (by decide) rfl (fun ls hl => ?_)
                  refine lv_goto (tgt := 104) hx hb dL_isBoardSo_161 (by decide) ?_
                  rw [cnt_s1 c_17] at hl
                  exact W.widen (by omega) (by omega) (ih2 (j + 1) (by omega) (by omega) _ _ hP hD hS ls (lv_sub hl [0, 2, 3, 1, 4] rfl))
          exact W.widen (by omega) (by omega) (loop_11 27 0 (by omega) (by omega) _ _ hP hD hS ls (lv_sub hl [0, 1, 4, 2, 5] rfl))
        · refine lv_aload_n hx hb dL_isBoardSo_67 rfl (lv_at hl 3 rfl) ?_
          refine lv_iload_n hx hb dL_isBoardSo_68 rfl (lv_at hl 0 rfl) ?_
          refine txR (As := [.int (bMir pl lo (nI k))]) (rest := []) ⟨hx, hb, hml, hown, hts⟩ (c_X6_mirror l D z q (aa 0) (aa 1) (aa 6) (aa 15) (aa 17) (aa 22) (aa 25) (aa 27) dy (aa 2) (aa 3) (aa 4) (aa 5) pl lo (bMir pl lo (nI k)) H.size hlt) (cwV 1 hts gL_isBoardSo_X6_mirror rfl rfl rfl hd_X6_mirror ⟨Nat.le_of_ble_eq_true rfl, Nat.le_of_ble_eq_true rfl⟩) hE hS hA hP hD [0, 1, 2, 3, 4, 5] rfl rfl rfl rfl rfl rfl hl.1 rfl (Nat.le_of_ble_eq_true rfl) dL_isBoardSo_69 ⟨(by show 255 * k + 12 + 3 ≤ 6700; omega), (by show 1530 * k + 72 + 18 ≤ 40200; omega)⟩ (fun E hbd => ((hm.2.2.2 c_10).1 (hbd.1) : False).elim) (fun H locs hP hD hS => ?_)
          refine lv_iload_n hx hb dL_isBoardSo_72 rfl (lv_at hl 1 rfl) ?_
          refine lv_icmp_ne (tgt := 96) hx hb dL_isBoardSo_73 (by decide) (fun c_22 => absurd ((hm.2.2.2 c_10).2.1) c_22) (fun _ => ?_)
          refine lv_aload_n hx hb dL_isBoardSo_76 rfl (lv_at hl 3 rfl) ?_
          refine lv_iload_n hx hb dL_isBoardSo_77 rfl (lv_at hl 0 rfl) ?_
          refine txR (As := [.int (bMir pl lo (nI k))]) (rest := []) ⟨hx, hb, hml, hown, hts⟩ (c_X6_finger l D z q (aa 0) (aa 1) (aa 6) (aa 15) (aa 17) (aa 22) (aa 25) (aa 27) dy (aa 2) (aa 3) (aa 4) (aa 5) pl lo (bMir pl lo (nI k)) H.size hlt) (cwV 1 hts gL_isBoardSo_X6_finger rfl rfl rfl hd_X6_finger ⟨Nat.le_of_ble_eq_true rfl, Nat.le_of_ble_eq_true rfl⟩) hE hS hA hP hD [0, 1, 2, 3, 4, 5] rfl rfl rfl rfl rfl rfl hl.1 rfl (Nat.le_of_ble_eq_true rfl) dL_isBoardSo_78 ⟨(by show 255 * k + 15 + 3 ≤ 6700; omega), (by show 1530 * k + 90 + 18 ≤ 40200; omega)⟩ (fun E hbd => ((hm.2.2.2 c_10).1 (hbd.1) : False).elim) (fun H locs hP hD hS => ?_)
          refine lv_aload_n hx hb dL_isBoardSo_81 rfl (lv_at hl 3 rfl) ?_
          refine lv_iload_n hx hb dL_isBoardSo_82 rfl (lv_at hl 1 rfl) ?_
          refine txR (As := [.int (nI k)]) (rest := [.int (bFin pl (bMir pl lo (nI k)))]) ⟨hx, hb, hml, hown, hts⟩ (c_X6_finger l D z q (aa 0) (aa 1) (aa 6) (aa 15) (aa 17) (aa 22) (aa 25) (aa 27) dy (aa 2) (aa 3) (aa 4) (aa 5) pl lo (nI k) H.size hlt) (cwV 1 hts gL_isBoardSo_X6_finger rfl rfl rfl hd_X6_finger ⟨Nat.le_of_ble_eq_true rfl, Nat.le_of_ble_eq_true rfl⟩) hE hS hA hP hD [0, 1, 2, 3, 4, 5] rfl rfl rfl rfl rfl rfl hl.1 rfl (Nat.le_of_ble_eq_true rfl) dL_isBoardSo_83 ⟨(by show 255 * k + 18 + 3 ≤ 6700; omega), (by show 1530 * k + 108 + 18 ≤ 40200; omega)⟩ (fun E hbd => ((bW_ok (b := 25) (by omega) (by omega)) (hbd.1) : False).elim) (fun H locs hP hD hS => ?_)
          refine lv_iadd hx hb dL_isBoardSo_86 ?_
          refine lv_bipush (v := 7) hx hb dL_isBoardSo_87 (by decide) ?_
          refine lv_icmp_ne (tgt := 96) hx hb dL_isBoardSo_89 (by decide) (fun c_23 => absurd ((hm.2.2.2 c_10).2.2) c_23) (fun _ => ?_)
          refine lv_iconst (v := 1) hx hb dL_isBoardSo_92 (by decide) ?_
          refine lv_goto (tgt := 97) hx hb dL_isBoardSo_93 (by decide) ?_
          refine lv_istore_n (lv' := [(1, .int 1), (3, .int (bMir pl lo (nI k))), (2, .int (nI k)), (0, .ref (aa 0))]) hx hb dL_isBoardSo_97 rfl hl (by decide) rfl (fun ls hl => ?_)
          refine lv_iconst (v := 0) hx hb dL_isBoardSo_98 (by decide) ?_
          refine lv_istore (lv' := [(4, .int 0), (1, .int 1), (3, .int (bMir pl lo (nI k))), (2, .int (nI k)), (0, .ref (aa 0))]) hx hb dL_isBoardSo_99 hl (by decide) rfl (fun ls hl => ?_)
          refine lv_iconst (v := 0) hx hb dL_isBoardSo_101 (by decide) ?_
          refine lv_istore (lv' := [(5, .int 0), (4, .int 0), (1, .int 1), (3, .int (bMir pl lo (nI k))), (2, .int (nI k)), (0, .ref (aa 0))]) hx hb dL_isBoardSo_102 hl (by decide) rfl (fun ls hl => ?_)
          have loop_24 : ∀ (n2 : Nat) (j : Nat), j ≤ 26 → 26 < j + n2 → ∀ (H : Heap) (locs : List Loc), va_P D vwCl [((aa 0), .inr (6, [.ref (aa 1), .ref (aa 6), .ref (aa 15), .ref (aa 17), .ref (aa 22), .ref (aa 25), .ref (aa 27), .int dy])), ((aa 1), .inr (0, [.ref (aa 2), .ref (aa 4)])), ((aa 2), .inr (1, [.ref (aa 3)])), ((aa 3), .inl (z 0, 26, .inl pl)), ((aa 4), .inr (1, [.ref (aa 5)])), ((aa 5), .inl (z 0, 30, .inl lo))] H → va_D A [((aa 0), .inr (6, [.ref (aa 1), .ref (aa 6), .ref (aa 15), .ref (aa 17), .ref (aa 22), .ref (aa 25), .ref (aa 27), .int dy])), ((aa 1), .inr (0, [.ref (aa 2), .ref (aa 4)])), ((aa 2), .inr (1, [.ref (aa 3)])), ((aa 3), .inl (z 0, 26, .inl pl)), ((aa 4), .inr (1, [.ref (aa 5)])), ((aa 5), .inl (z 0, 30, .inl lo))] → va_S A s.heap H locs → ∀ ls : Array Slot, lv_has ls 6 [(5, .int (nI j)), (4, .int (nI (cnt (tO pl k) j))), (2, .int (nI k)), (1, .int 1), (0, .ref (aa 0))] → W p l e ({ frames := 8, cells := 6700, slots := 40200, locals := 162 } : Room) s m ([.ref (aa 0)] : List Value).toArray below meth c H locs (255 * k + 9 * j + 21) (1530 * k + 54 * j + 126) (MQ below (QW D [((aa 0), .inr (6, [.ref (aa 1), .ref (aa 6), .ref (aa 15), .ref (aa 17), .ref (aa 22), .ref (aa 25), .ref (aa 27), .int dy])), ((aa 1), .inr (0, [.ref (aa 2), .ref (aa 4)])), ((aa 2), .inr (1, [.ref (aa 3)])), ((aa 3), .inl (z 0, 26, .inl pl)), ((aa 4), .inr (1, [.ref (aa 5)])), ((aa 5), .inl (z 0, 30, .inl lo))] A (some (.int 1))) ([.ref (aa 0)] : List Value).toArray s 6700 40200 A) (F0 m 104 ls []) := by
            intro n2
            induction n2 with
            | zero => intro j hj hf2; exact absurd hf2 (by omega)
            | succ n2 ih2 =>
              intro j hj hf2 H locs hP hD hS ls hl
              refine lv_iload hx hb dL_isBoardSo_104 (lv_at hl 0 rfl) ?_
              refine lv_bipush (v := 26) hx hb dL_isBoardSo_106 (by decide) ?_
              refine lv_icmp_ge (tgt := 164) hx hb dL_isBoardSo_108 (by decide) (fun c_25 => ?_) (fun c_25 => ?_)
              · have hj26 : j = 26 := by have := jge (a := 26) (by omega) (by omega) c_25; omega
                refine lv_iload_n hx hb dL_isBoardSo_164 rfl (lv_at hl 3 rfl) ?_
                refine lv_if_eq (tgt := 179) hx hb dL_isBoardSo_165 (by decide) (fun c_26 => absurd c_26 (by decide)) (fun _ => ?_)
                refine lv_iload hx hb dL_isBoardSo_168 (lv_at hl 1 rfl) ?_
                refine lv_bipush (v := 9) hx hb dL_isBoardSo_170 (by decide) ?_
                refine lv_icmp_gt (tgt := 179) hx hb dL_isBoardSo_172 (by decide) (fun c_27 => absurd c_27 (nine (by rw [hj26]; exact beside9 hI.1.1 hkl))) (fun _ => ?_)
                refine lv_iconst (v := 1) hx hb dL_isBoardSo_175 (by decide) ?_
                refine lv_goto (tgt := 180) hx hb dL_isBoardSo_176 (by decide) ?_
                refine lv_istore_n (lv' := [(1, .int 1), (5, .int (nI j)), (4, .int (nI (cnt (tO pl k) j))), (2, .int (nI k)), (0, .ref (aa 0))]) hx hb dL_isBoardSo_180 rfl hl (by decide) rfl (fun ls hl => ?_)
                refine lv_iinc (v := nI (k + 1)) (lv' := [(2, .int (nI (k + 1))), (1, .int 1), (5, .int (nI j)), (4, .int (nI (cnt (tO pl k) j))), (0, .ref (aa 0))]) hx hb dL_isBoardSo_181 hl (k := 3) rfl (nI_1 k) (by decide) rfl (fun ls hl => ?_)
                refine lv_goto (tgt := 4) hx hb dL_isBoardSo_184 (by decide) ?_
                exact W.widen (by omega) (by omega) (ih (k + 1) (by omega) (by omega) _ _ hP hD hS ls (lv_sub hl [0, 1, 4] rfl))
              · have hjl : j < 26 := jlt (a := 26) (by omega) (by omega) c_25
                refine lv_iload_n hx hb dL_isBoardSo_111 rfl (lv_at hl 3 rfl) ?_
                refine lv_if_eq (tgt := 164) hx hb dL_isBoardSo_112 (by decide) (fun c_29 => absurd c_29 (by decide)) (fun _ => ?_)
                refine lv_iload hx hb dL_isBoardSo_115 (lv_at hl 1 rfl) ?_
                refine lv_aload_n hx hb dL_isBoardSo_117 rfl (lv_at hl 4 rfl) ?_
                refine lv_iload_n hx hb dL_isBoardSo_118 rfl (lv_at hl 2 rfl) ?_
                refine lv_iload hx hb dL_isBoardSo_119 (lv_at hl 0 rfl) ?_
                refine txR (As := [.int (nI k), .int (nI j)]) (rest := [.int (nI (cnt (tO pl k) j))]) ⟨hx, hb, hml, hown, hts⟩ (c_X6_areBeside l D z q (aa 0) (aa 1) (aa 6) (aa 15) (aa 17) (aa 22) (aa 25) (aa 27) dy (aa 2) (aa 3) (aa 4) (aa 5) pl lo (nI k) (nI j) H.size hlt) (cwV 2 hts gL_isBoardSo_X6_areBeside rfl rfl rfl hd_X6_areBeside ⟨Nat.le_of_ble_eq_true rfl, Nat.le_of_ble_eq_true rfl⟩) hE hS hA hP hD [0, 1, 2, 3, 4, 5] rfl rfl rfl rfl rfl rfl hl.1 rfl (Nat.le_of_ble_eq_true rfl) dL_isBoardSo_121 ⟨(by show 255 * k + 9 * j + 21 + 3 ≤ 6700; omega), (by show 1530 * k + 54 * j + 126 + 18 ≤ 40200; omega)⟩ (fun E hbd => (hbd.elim (fun h0 => (bW_ok (b := 25) (by omega) (by omega)) (h0.1)) (fun h0 => (bW_ok (b := 25) (by omega) (by omega)) (h0.2.1)) : False).elim) (fun H locs hP hD hS => ?_)
                refine lv_if_eq (tgt := 131) hx hb dL_isBoardSo_124 (by decide) (fun c_30 => ?_) (fun c_30 => ?_)
                · refine lv_iconst (v := 0) hx hb dL_isBoardSo_131 (by decide) ?_
                  refine lv_iadd hx hb dL_isBoardSo_132 ?_
                  refine lv_istore (lv' := [(4, .int ((nI (cnt (tO pl k) j)) + 0)), (5, .int (nI j)), (2, .int (nI k)), (1, .int 1), (0, .ref (aa 0))]) hx hb dL_isBoardSo_133 hl (by decide) rfl (fun ls hl => ?_)
                  refine lv_aload_n hx hb dL_isBoardSo_135 rfl (lv_at hl 4 rfl) ?_
                  refine lv_iload_n hx hb dL_isBoardSo_136 rfl (lv_at hl 2 rfl) ?_
                  refine lv_iload hx hb dL_isBoardSo_137 (lv_at hl 1 rfl) ?_
                  refine txR (As := [.int (nI k), .int (nI j)]) (rest := []) ⟨hx, hb, hml, hown, hts⟩ (c_X6_areBeside l D z q (aa 0) (aa 1) (aa 6) (aa 15) (aa 17) (aa 22) (aa 25) (aa 27) dy (aa 2) (aa 3) (aa 4) (aa 5) pl lo (nI k) (nI j) H.size hlt) (cwV 2 hts gL_isBoardSo_X6_areBeside rfl rfl rfl hd_X6_areBeside ⟨Nat.le_of_ble_eq_true rfl, Nat.le_of_ble_eq_true rfl⟩) hE hS hA hP hD [0, 1, 2, 3, 4, 5] rfl rfl rfl rfl rfl rfl hl.1 rfl (Nat.le_of_ble_eq_true rfl) dL_isBoardSo_139 ⟨(by show 255 * k + 9 * j + 24 + 3 ≤ 6700; omega), (by show 1530 * k + 54 * j + 144 + 18 ≤ 40200; omega)⟩ (fun E hbd => (hbd.elim (fun h0 => (bW_ok (b := 25) (by omega) (by omega)) (h0.1)) (fun h0 => (bW_ok (b := 25) (by omega) (by omega)) (h0.2.1)) : False).elim) (fun H locs hP hD hS => ?_)
                  refine lv_aload_n hx hb dL_isBoardSo_142 rfl (lv_at hl 4 rfl) ?_
                  refine lv_iload hx hb dL_isBoardSo_143 (lv_at hl 1 rfl) ?_
                  refine lv_iload_n hx hb dL_isBoardSo_145 rfl (lv_at hl 2 rfl) ?_
                  refine txR (As := [.int (nI j), .int (nI k)]) (rest := [.int (bTouch pl (nI k) (nI j))]) ⟨hx, hb, hml, hown, hts⟩ (c_X6_areBeside l D z q (aa 0) (aa 1) (aa 6) (aa 15) (aa 17) (aa 22) (aa 25) (aa 27) dy (aa 2) (aa 3) (aa 4) (aa 5) pl lo (nI j) (nI k) H.size hlt) (cwV 2 hts gL_isBoardSo_X6_areBeside rfl rfl rfl hd_X6_areBeside ⟨Nat.le_of_ble_eq_true rfl, Nat.le_of_ble_eq_true rfl⟩) hE hS hA hP hD [0, 1, 2, 3, 4, 5] rfl rfl rfl rfl rfl rfl hl.1 rfl (Nat.le_of_ble_eq_true rfl) dL_isBoardSo_146 ⟨(by show 255 * k + 9 * j + 27 + 3 ≤ 6700; omega), (by show 1530 * k + 54 * j + 162 + 18 ≤ 40200; omega)⟩ (fun E hbd => (hbd.elim (fun h0 => (bW_ok (b := 25) (by omega) (by omega)) (h0.1)) (fun h0 => (bW_ok (b := 25) (by omega) (by omega)) (h0.2.1)) : False).elim) (fun H locs hP hD hS => ?_)
                  refine lv_icmp_ne (tgt := 156) hx hb dL_isBoardSo_149 (by decide) (fun c_31 => absurd (touch_sym hI.1.1 hkl hjl) c_31) (fun _ => ?_)
                  refine lv_iconst (v := 1) hx hb dL_isBoardSo_152 (by decide) ?_
                  refine lv_goto (tgt := 157) hx hb dL_isBoardSo_153 (by decide) ?_
                  refine lv_istore_n (lv' := [(1, .int 1), (4, .int ((nI (cnt (tO pl k) j)) + 0)), (5, .int (nI j)), (2, .int (nI k)), (0, .ref (aa 0))]) hx hb dL_isBoardSo_157 rfl hl (by decide) rfl (fun ls hl => ?_)
                  refine lv_iinc (v := nI (j + 1)) (lv' := [(5, .int (nI (j + 1))), (1, .int 1), (4, .int ((nI (cnt (tO pl k) j)) + 0)), (2, .int (nI k)), (0, .ref (aa 0))]) hx hb dL_isBoardSo_158 hl (k := 2) rfl (nI_1 j) (by decide) rfl (fun ls hl => ?_)
                  refine lv_goto (tgt := 104) hx hb dL_isBoardSo_161 (by decide) ?_
                  rw [cnt_s0 c_30] at hl
                  exact W.widen (by omega) (by omega) (ih2 (j + 1) (by omega) (by omega) _ _ hP hD hS ls (lv_sub hl [0, 2, 3, 1, 4] rfl))
                · refine lv_iconst (v := 1) hx hb dL_isBoardSo_127 (by decide) ?_
                  refine lv_goto (tgt := 132) hx hb dL_isBoardSo_128 (by decide) ?_
                  refine lv_iadd hx hb dL_isBoardSo_132 ?_
                  refine lv_istore (lv' := [(4, .int ((nI (cnt (tO pl k) j)) + 1)), (5, .int (nI j)), (2, .int (nI k)), (1, .int 1), (0, .ref (aa 0))]) hx hb dL_isBoardSo_133 hl (by decide) rfl (fun ls hl => ?_)
                  refine lv_aload_n hx hb dL_isBoardSo_135 rfl (lv_at hl 4 rfl) ?_
                  refine lv_iload_n hx hb dL_isBoardSo_136 rfl (lv_at hl 2 rfl) ?_
                  refine lv_iload hx hb dL_isBoardSo_137 (lv_at hl 1 rfl) ?_
                  refine txR (As := [.int (nI k), .int (nI j)]) (rest := []) ⟨hx, hb, hml, hown, hts⟩ (c_X6_areBeside l D z q (aa 0) (aa 1) (aa 6) (aa 15) (aa 17) (aa 22) (aa 25) (aa 27) dy (aa 2) (aa 3) (aa 4) (aa 5) pl lo (nI k) (nI j) H.size hlt) (cwV 2 hts gL_isBoardSo_X6_areBeside rfl rfl rfl hd_X6_areBeside ⟨Nat.le_of_ble_eq_true rfl, Nat.le_of_ble_eq_true rfl⟩) hE hS hA hP hD [0, 1, 2, 3, 4, 5] rfl rfl rfl rfl rfl rfl hl.1 rfl (Nat.le_of_ble_eq_true rfl) dL_isBoardSo_139 ⟨(by show 255 * k + 9 * j + 24 + 3 ≤ 6700; omega), (by show 1530 * k + 54 * j + 144 + 18 ≤ 40200; omega)⟩ (fun E hbd => (hbd.elim (fun h0 => (bW_ok (b := 25) (by omega) (by omega)) (h0.1)) (fun h0 => (bW_ok (b := 25) (by omega) (by omega)) (h0.2.1)) : False).elim) (fun H locs hP hD hS => ?_)
                  refine lv_aload_n hx hb dL_isBoardSo_142 rfl (lv_at hl 4 rfl) ?_
                  refine lv_iload hx hb dL_isBoardSo_143 (lv_at hl 1 rfl) ?_
                  refine lv_iload_n hx hb dL_isBoardSo_145 rfl (lv_at hl 2 rfl) ?_
                  refine txR (As := [.int (nI j), .int (nI k)]) (rest := [.int (bTouch pl (nI k) (nI j))]) ⟨hx, hb, hml, hown, hts⟩ (c_X6_areBeside l D z q (aa 0) (aa 1) (aa 6) (aa 15) (aa 17) (aa 22) (aa 25) (aa 27) dy (aa 2) (aa 3) (aa 4) (aa 5) pl lo (nI j) (nI k) H.size hlt) (cwV 2 hts gL_isBoardSo_X6_areBeside rfl rfl rfl hd_X6_areBeside ⟨Nat.le_of_ble_eq_true rfl, Nat.le_of_ble_eq_true rfl⟩) hE hS hA hP hD [0, 1, 2, 3, 4, 5] rfl rfl rfl rfl rfl rfl hl.1 rfl (Nat.le_of_ble_eq_true rfl) dL_isBoardSo_146 ⟨(by show 255 * k + 9 * j + 27 + 3 ≤ 6700; omega), (by show 1530 * k + 54 * j + 162 + 18 ≤ 40200; omega)⟩ (fun E hbd => (hbd.elim (fun h0 => (bW_ok (b := 25) (by omega) (by omega)) (h0.1)) (fun h0 => (bW_ok (b := 25) (by omega) (by omega)) (h0.2.1)) : False).elim) (fun H locs hP hD hS => ?_)
                  refine lv_icmp_ne (tgt := 156) hx hb dL_isBoardSo_149 (by decide) (fun c_33 => absurd (touch_sym hI.1.1 hkl hjl) c_33) (fun _ => ?_)
                  refine lv_iconst (v := 1) hx hb dL_isBoardSo_152 (by decide) ?_
                  refine lv_goto (tgt := 157) hx hb dL_isBoardSo_153 (by decide) ?_
                  refine lv_istore_n (lv' := [(1, .int 1), (4, .int ((nI (cnt (tO pl k) j)) + 1)), (5, .int (nI j)), (2, .int (nI k)), (0, .ref (aa 0))]) hx hb dL_isBoardSo_157 rfl hl (by decide) rfl (fun ls hl => ?_)
                  refine lv_iinc (v := nI (j + 1)) (lv' := [(5, .int (nI (j + 1))), (1, .int 1), (4, .int ((nI (cnt (tO pl k) j)) + 1)), (2, .int (nI k)), (0, .ref (aa 0))]) hx hb dL_isBoardSo_158 hl (k := 2) rfl (nI_1 j) (by decide) rfl (fun ls hl => ?_)
                  refine lv_goto (tgt := 104) hx hb dL_isBoardSo_161 (by decide) ?_
                  rw [cnt_s1 c_30] at hl
                  exact W.widen (by omega) (by omega) (ih2 (j + 1) (by omega) (by omega) _ _ hP hD hS ls (lv_sub hl [0, 2, 3, 1, 4] rfl))
          exact W.widen (by omega) (by omega) (loop_24 27 0 (by omega) (by omega) _ _ hP hD hS ls (lv_sub hl [0, 1, 4, 2, 5] rfl))
  exact W.widen (by omega) (by omega) (loop_1 27 0 (by omega) (by omega) _ _ hP hD hS ls (lv_sub hl [0, 1, 2] rfl))
