/-! ===== the model: its rows' reads and writes, and what it computes ===== -/
theorem cAt_in {n : Nat} {f : Nat → Int32} {i : Int32} (hn : n < 2 ^ 31) (h : vp_in i n) : cAt n f i = f i.toNatClampNeg := by
  obtain ⟨j, hj, rfl⟩ := vp_in_of h hn
  rw [cAt_nI f hj hn, nI_clamp (Nat.lt_trans hj hn)]
theorem cSet_in {n : Nat} {f : Nat → Int32} {i x : Int32} (hn : n < 2 ^ 31) (h : vp_in i n) : cSet n f i x = upd f i.toNatClampNeg x := by
  obtain ⟨j, hj, rfl⟩ := vp_in_of h hn
  rw [cSet_nI f x hj hn, nI_clamp (Nat.lt_trans hj hn)]
theorem zin {ia : Nat → Int32} {i : Int32} (h : vp_in i 26) : (ia i.toNatClampNeg = 0) ↔ (lIn ia i = 0) := by
  obtain ⟨j, hj, rfl⟩ := vp_in_of h (Nat.le_of_ble_eq_true rfl)
  rw [lIn_nI ia hj, nI_clamp (i26 hj)]
  by_cases h0 : ia j = 0
  · rw [if_pos h0]; exact ⟨fun _ => rfl, fun _ => h0⟩
  · rw [if_neg h0]; exact ⟨fun h1 => absurd h1 h0, fun h1 => absurd h1 (by decide)⟩
section MCOMB
variable {p : Program} {l : Launch} {e : Env} {R : Room} {s : State} {m : MethodId} {args : Array Value} {below : List Frame} {meth : Method} {c : Code} {H : Heap} {locs : List Loc} {cells slots : Nat} {Q : State → Prop}
variable {D : va_G} {A : Nat → Prop} {cc : ByteArray} {pc : Nat} {ls : Array Slot} {rest : List Value} {cl : List vw_C} {ws : va_W} {tys : List (ClassId × FieldType)} {a : Nat} {H0 : Heap}
theorem mIald (hexec : p.tables.exec = Jvm.exec) (hb : c.code = cc) (hK : va_K D cl tys s) (hP : va_P D cl ws H) (q0 t0 : Nat) {cA : ClassId} {n : Nat} {f : Nat → Int32} (ha : ws[q0]? = some (a, .inl (cA, n, .inl f))) (ht : tys[t0]? = some (cA, .int)) {i : Int32} (hn : n < 2 ^ 31) (hin : vp_in i n) (hdg : decode cc pc = .ok (.iaload, 1))
    (kk : W p l e R s m args below meth c H locs cells slots Q (F0 m (pc + 1) ls (.int (cAt n f i) :: rest))) : W p l e R s m args below meth c H locs cells slots Q (F0 m pc ls (.int i :: .ref a :: rest)) := by
  rw [cAt_in hn hin] at kk
  exact va_iald hexec hb hK hP q0 t0 ha ht hin hdg kk
theorem mIast (hexec : p.tables.exec = Jvm.exec) (hb : c.code = cc) (hK : va_K D cl tys s) (hP : va_P D cl ws H) (hD : va_D A ws) (hS : va_S A H0 H locs) (q0 t0 : Nat) {cA : ClassId} {n : Nat} {f : Nat → Int32} (ha : ws[q0]? = some (a, .inl (cA, n, .inl f))) (ht : tys[t0]? = some (cA, .int)) {i : Int32} {x : Int32} (hn : n < 2 ^ 31) (hin : vp_in i n) (hdg : decode cc pc = .ok (.iastore, 1))
    (kk : ∀ (H1 : Heap) (locs1 : List Loc), va_P D cl (ws.set q0 (a, .inl (cA, n, .inl (cSet n f i x)))) H1 → va_D A (ws.set q0 (a, .inl (cA, n, .inl (cSet n f i x)))) → va_S A H0 H1 locs1 → W p l e R s m args below meth c H1 locs1 cells slots Q (F0 m (pc + 1) ls rest)) : W p l e R s m args below meth c H locs cells slots Q (F0 m pc ls (.int x :: .int i :: .ref a :: rest)) := by
  rw [cSet_in hn hin] at kk
  exact va_iast hexec hb hK hP hD hS q0 t0 ha ht hin hdg kk
end MCOMB
theorem bW_n (v a b : Int32) : narrow .boolean (.int (bW v a b)) = .int (bW v a b) := by
  unfold bW; split <;> first | rfl | (split <;> rfl)
theorem bW_in {i a : Int32} {n : Nat} (ha : a = nI n) (hn : n < 2 ^ 30) (h : ¬ bW i 0 a = 0) : vp_in i (n + 1) := by
  subst ha
  have h1 : ¬ i < 0 := fun h1 => h (by unfold bW; rw [if_pos h1])
  have h2 : ¬ nI n < i := fun h2 => h (by unfold bW; split <;> first | rfl | (rw [if_pos h2]))
  obtain ⟨k, hk, rfl⟩ := nI_of h1
  have h3 : ¬ n < k := fun h3 => h2 ((nI_ltI (by omega) hk).mpr h3)
  exact vp_in_nI (by omega) (by omega)
def mHold (k : Int32) : Int32 := if k = 0 then 1 else 0
theorem mHold_n (k : Int32) : narrow .boolean (.int (mHold k)) = .int (mHold k) := by
  unfold mHold; split <;> rfl
theorem mh0 : ¬ mHold 0 = 0 := by decide
theorem mh1 : mHold 1 = 0 := by decide
theorem mh2 : mHold 2 = 0 := by decide
theorem mh3 : mHold 3 = 0 := by decide
def mLtO (pl : Nat → Int32) (v : Int32) (k : Nat) : Bool := decide (pl k = v)
def mLtN (pl : Nat → Int32) (v : Int32) : Nat := lFst (mLtO pl v) 26 0
def mLet (pl : Nat → Int32) (v : Int32) : Int32 := if mLtN pl v < 26 then nI (mLtN pl v) else -1
def mFin (v : Int32) : Int32 := if 4 ≤ v then (if v = 4 then 3 else if v = 5 then 4 else v - 2) else v
def mBes (pl : Nat → Int32) (i j : Int32) : Int32 := if bW (bCol pl i - bCol pl j) (-1) 1 = 0 then 0 else if bW (bRow pl i - bRow pl j) (-1) 1 = 0 then 0 else 1
theorem mBes_n (pl : Nat → Int32) (i j : Int32) : narrow .boolean (.int (mBes pl i j)) = .int (mBes pl i j) := by
  unfold mBes; split <;> first | rfl | (split <;> rfl)
def mMir (pl : Nat → Int32) (i : Int32) : Int32 := bRow pl i * 10 + 10 - 1 - bCol pl i
def mErS (pl : Nat → Int32) (i du : Int32) : Int32 := if mBes pl i du = 0 then (if cAt 26 pl i = mMir pl du then 3 else 4) else 2
def mErR (pl lt : Nat → Int32) (zz po i du : Int32) : Int32 := if zz ≤ po + 1 then mErS pl i du else if cAt 40 lt (po + 1) = i then 1 else mErS pl i du
def mErr (pl lt ty : Nat → Int32) (zz po i : Int32) : Int32 := if po ≤ 0 then mErR pl lt zz po i (cAt 40 lt po) else if cAt 40 ty (po - 1) = i then 0 else mErR pl lt zz po i (cAt 40 lt po)
theorem mErS_in (pl : Nat → Int32) (i du : Int32) : vp_in (mErS pl i du) 5 := by
  unfold mErS
  split
  · split
    · exact vp_in_nI (n := 3) (by omega) (by omega)
    · exact vp_in_nI (n := 4) (by omega) (by omega)
  · exact vp_in_nI (n := 2) (by omega) (by omega)
theorem mErR_in (pl lt : Nat → Int32) (zz po i du : Int32) : vp_in (mErR pl lt zz po i du) 5 := by
  unfold mErR
  split
  · exact mErS_in _ _ _
  · split
    · exact vp_in_nI (n := 1) (by omega) (by omega)
    · exact mErS_in _ _ _
theorem mErr_in (pl lt ty : Nat → Int32) (zz po i : Int32) : vp_in (mErr pl lt ty zz po i) 5 := by
  unfold mErr
  split
  · exact mErR_in _ _ _ _ _ _
  · split
    · exact vp_in_nI (n := 0) (by omega) (by omega)
    · exact mErR_in _ _ _ _ _ _
def mSpeed (lt ty : Nat → Int32) (ps : Nat) (ml : Int32) : Int32 := if ml = 0 then 0 else tRight lt ty ps * 60000 / ml
theorem lWk_0 {ia ti sh : Nat → Int32} {j : Nat} (h : lIn ia (nI (j + 1)) = 0) : lWk ia ti sh j = lWk ia ti sh (j + 1) := by rw [lWk, if_pos h]
theorem lWk_t {ia ti sh : Nat → Int32} {j : Nat} (h : ¬ lIn ia (nI (j + 1)) = 0) (w : fWeak ti sh (nI (j + 1)) (lWk ia ti sh j) = 1) : nI (j + 1) = lWk ia ti sh (j + 1) := by
  rw [lWk, if_neg h, if_neg (by rw [w]; decide)]
theorem lWk_f {ia ti sh : Nat → Int32} {j : Nat} (w : fWeak ti sh (nI (j + 1)) (lWk ia ti sh j) = 0) : lWk ia ti sh j = lWk ia ti sh (j + 1) := by
  rw [lWk, if_pos w]; split <;> rfl
theorem i_lt_nle {a b : Int32} (h : a < b) : ¬ b ≤ a := fun h2 => by
  have h1 := Int32.lt_iff_toInt_lt.mp h
  have h3 := Int32.le_iff_toInt_le.mp h2
  omega
theorem i_lt_ne {a b : Int32} (h : a < b) : ¬ b = a := fun h2 => by
  subst h2
  have h1 := Int32.lt_iff_toInt_lt.mp h
  omega
theorem i_nlt_le {a b : Int32} (h : ¬ a < b) : b ≤ a := Int32.le_iff_toInt_le.mpr (by
  have h1 : ¬ a.toInt < b.toInt := fun h2 => h (Int32.lt_iff_toInt_lt.mpr h2)
  omega)
theorem fWeak_1 {ti sh : Nat → Int32} {i j : Int32} (c : cAt 26 sh j < cAt 26 sh i) : fWeak ti sh i j = 1 := by
  rw [fWeak, if_neg (i_lt_ne c), if_neg (i_lt_nle c)]
theorem fWeak_2 {ti sh : Nat → Int32} {i j : Int32} (c : ¬ cAt 26 sh j < cAt 26 sh i) (e : ¬ cAt 26 sh i = cAt 26 sh j) : fWeak ti sh i j = 0 := by
  rw [fWeak, if_neg e, if_pos (i_nlt_le c)]
theorem fWeak_3 {ti sh : Nat → Int32} {i j : Int32} (e : cAt 26 sh i = cAt 26 sh j) (c : cAt 26 ti i ≤ cAt 26 ti j) : fWeak ti sh i j = 0 := by
  rw [fWeak, if_pos e, if_pos c]
theorem fWeak_4 {ti sh : Nat → Int32} {i j : Int32} (e : cAt 26 sh i = cAt 26 sh j) (c : ¬ cAt 26 ti i ≤ cAt 26 ti j) : fWeak ti sh i j = 1 := by
  rw [fWeak, if_pos e, if_neg c]
theorem fPair_c (b x : Int32) : 26 * b + x = fPair b x := by rw [fPair, Int32.mul_comm]
theorem fPair_in {b x : Int32} (hb : vp_in b 26) (hx : vp_in x 26) : vp_in (26 * b + x) 676 := by
  obtain ⟨i, hi, rfl⟩ := vp_in_of hb (Nat.le_of_ble_eq_true rfl)
  obtain ⟨j, hj, rfl⟩ := vp_in_of hx (Nat.le_of_ble_eq_true rfl)
  rw [show (26 : Int32) = nI 26 from rfl, pk_mul, nI_add]
  exact vp_in_nI (by omega) (by omega)
/-- the state of the search for the pair of the greatest time -/
def sbOk (pr : Nat → Int32) (b x y : Int32) : Prop := (x = -1 ∧ y = -1) ∨ (vp_in x 26 ∧ y = cAt 676 pr (fPair b x))
abbrev prOk (pr : Nat → Int32) : Prop := ∀ k, k < 676 → (0 : Int32) ≤ pr k
theorem prOk_at {pr : Nat → Int32} (h : prOk pr) {b x : Int32} (hb : vp_in b 26) (hx : vp_in x 26) : ¬ cAt 676 pr (fPair b x) ≤ -1 := by
  rw [← fPair_c]
  obtain ⟨k, hk, e⟩ := vp_in_of (fPair_in hb hx) (Nat.le_of_ble_eq_true rfl)
  rw [e, cAt_nI pr hk (Nat.le_of_ble_eq_true rfl)]
  have h1 := Int32.le_iff_toInt_le.mp (h k hk)
  intro h2
  have h3 := Int32.le_iff_toInt_le.mp h2
  have e0 : (0 : Int32).toInt = 0 := rfl
  have e1 : (-1 : Int32).toInt = -1 := rfl
  omega
theorem lSb_0 {ia pr : Nat → Int32} {b : Int32} {j : Nat} (h : lIn ia (nI j) = 0) : lSb ia pr b (j + 1) = lSb ia pr b j := by rw [lSb, if_pos h]
theorem lSb_e {ia pr : Nat → Int32} {b : Int32} {j : Nat} (h : nI j = b) : lSb ia pr b (j + 1) = lSb ia pr b j := by
  rw [lSb]; split <;> first | rfl | (rw [if_pos h])
theorem lSb_f {ia pr : Nat → Int32} {b : Int32} {j : Nat} (h : cAt 676 pr (fPair b (nI j)) ≤ (lSb ia pr b j).2) : lSb ia pr b (j + 1) = lSb ia pr b j := by
  rw [lSb]; split <;> first | rfl | (split <;> first | rfl | (rw [if_pos h]))
theorem lSb_t {ia pr : Nat → Int32} {b : Int32} {j : Nat} (h1 : ¬ lIn ia (nI j) = 0) (h2 : ¬ nI j = b) (h3 : ¬ cAt 676 pr (fPair b (nI j)) ≤ (lSb ia pr b j).2) : lSb ia pr b (j + 1) = (nI j, cAt 676 pr (fPair b (nI j))) := by
  rw [lSb, if_neg h1, if_neg h2, if_neg h3]
/-- letting in, from the highest letter down -/
def mLow (ia : Nat → Int32) : Nat → Int32
  | 0 => -1
  | f + 1 => if lIn ia (nI (25 - f)) = 0 then nI (25 - f) else mLow ia f
theorem nvp1 : ¬ vp_in (-1) 26 := fun h => h (Or.inl (by decide))
