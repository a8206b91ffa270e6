/-! ===== what holds of the coach ===== -/
/-- the board: the letters' places, and the letters at the places -/
def BOK (pl lo : Nat → Int32) : Prop := (∀ k, k < 26 → ∃ r, r < 30 ∧ pl k = nI r ∧ lo r = nI k) ∧ (∀ r, r < 30 → lo r = -1 ∨ ∃ k, k < 26 ∧ lo r = nI k ∧ pl k = nI r)
def PRK (pr : Nat → Int32) : Prop := ∀ k, k < 676 → ∃ n, n ≤ 5000 ∧ pr k = nI n
def INV (N : Nat) (pl lo pr ia lt ltM ty tyM kp kpM : Nat → Int32) (zz po ml sn : Int32) : Prop :=
  BOK pl lo ∧ PRK pr ∧ inOk ia ∧ (∃ zn, zz = nI zn ∧ zn ≤ 40 ∧ (∀ k, k < zn → ltM k = lt k ∧ vp_in (lt k) 26) ∧ ∃ ps, po = nI ps ∧ ps ≤ zn ∧ ∀ k, k < ps → tyM k = ty k) ∧ (∃ mn, ml = nI mn ∧ mn ≤ 5000 * N) ∧ (∃ sk, sn = nI sk ∧ sk ≤ 100 ∧ ∀ k, k < sk → kpM k = kp k)
theorem mSld {p : Program} {l : Launch} {e : Env} {R : Room} {s : State} {m : MethodId} {args : Array Value} {below : List Frame} {meth : Method} {c : Code} {H : Heap} {locs : List Loc} {cells slots : Nat} {Q : State → Prop} {cc : ByteArray} {pc : Nat} {ls : Array Slot} {rest : List Value} {A : Nat → Prop} {H0 : Heap} {b L : Nat} {xs : Nat → Int32}
    (hexec : p.tables.exec = Jvm.exec) (hb : c.code = cc) (hX : va_X b L xs s H0) (hbl : b < H0.size) (hbA : ¬ A b) (hS : va_S A H0 H locs) {i v : Int32} (hin : vp_in i L) (hv : v = xs i.toNatClampNeg) (hdg : decode cc pc = .ok (.iaload, 1))
    (kk : W p l e R s m args below meth c H locs cells slots Q (F0 m (pc + 1) ls (.int v :: rest))) : W p l e R s m args below meth c H locs cells slots Q (F0 m pc ls (.int i :: .ref b :: rest)) := by
  subst hv
  exact va_sld hexec hb hX hbl hbA hS hin hdg kk
/-! what holds between the two -/
theorem PRK_ok {pr : Nat → Int32} (h : PRK pr) : prOk pr := fun k hk => by
  obtain ⟨n, hn, e⟩ := h k hk
  rw [e]; exact nI_pos' (by omega)
theorem BOK_at {pl lo : Nat → Int32} (h : BOK pl lo) {i : Int32} (hi : vp_in i 26) : ∃ k r, k < 26 ∧ r < 30 ∧ i = nI k ∧ cAt 26 pl i = nI r ∧ lo r = nI k ∧ pl k = nI r := by
  obtain ⟨k, hk, rfl⟩ := vp_in_of hi (Nat.le_of_ble_eq_true rfl)
  obtain ⟨r, h1, h2, h3⟩ := h.1 k hk
  exact ⟨k, r, hk, h1, rfl, by rw [cAt_nI pl hk (Nat.le_of_ble_eq_true rfl), h2], h3, h2⟩
theorem nI_inj {a b : Nat} (ha : a < 2 ^ 31) (hb : b < 2 ^ 31) (h : nI a = nI b) : a = b := (nI_eq ha hb).mp h
theorem div10 {r : Nat} (h : r < 30) : nI r / 10 = nI (r / 10) := by rw [show (10 : Int32) = nI 10 from rfl, pk_div (by omega) (by omega) (by omega)]
theorem mod10 {r : Nat} (h : r < 30) : nI r - nI r / 10 * 10 = nI (r % 10) := by rw [show (10 : Int32) = nI 10 from rfl, pk_rem (by omega) (by omega) (by omega)]
theorem col_at {pl : Nat → Int32} {i : Int32} {r : Nat} (h : cAt 26 pl i = nI r) (hr : r < 30) : bCol pl i = nI (r % 10) := by rw [bCol, h, mod10 hr]
theorem row_at {pl : Nat → Int32} {i : Int32} {r : Nat} (h : cAt 26 pl i = nI r) (hr : r < 30) : bRow pl i = nI (r / 10) := by rw [bRow, h, div10 hr]
theorem lFst_spec (o : Nat → Bool) {k : Nat} (hk : o k = true) : ∀ f i, i ≤ k → k < i + f → (∀ j, i ≤ j → j < k → o j = false) → lFst o f i = k
  | 0, i, h1, h2, _ => by omega
  | f + 1, i, h1, h2, h3 => by
    rw [lFst]
    by_cases e : i = k
    · subst e; rw [if_pos hk]
    · rw [if_neg (by rw [h3 i (Nat.le_refl _) (by omega)]; decide)]
      exact lFst_spec o hk f (i + 1) (by omega) (by omega) (fun j h4 h5 => h3 j (by omega) h5)
theorem lFst_none (o : Nat → Bool) : ∀ f i, (∀ j, i ≤ j → j < i + f → o j = false) → lFst o f i = i + f
  | 0, i, _ => rfl
  | f + 1, i, h => by
    rw [lFst, if_neg (by rw [h i (Nat.le_refl _) (by omega)]; decide), lFst_none o f (i + 1) (fun j h1 h2 => h j (by omega) (by omega))]
    omega
/-- the letter at a place: looked up, or searched -/
theorem mLet_rel {pl lo : Nat → Int32} (h : BOK pl lo) {r : Nat} (hr : r < 30) : mLet pl (nI r) = lo r := by
  rcases h.2 r hr with h1 | ⟨k, hk, h1, h2⟩
  · have h3 : mLtN pl (nI r) = 26 := by
      rw [mLtN, lFst_none]
      intro j _ hj
      refine decide_eq_false (fun e => ?_)
      obtain ⟨r2, hr2, e2, e3⟩ := h.1 j (by omega)
      have : r2 = r := nI_inj (by omega) (by omega) (e2.symm.trans e)
      subst this
      rw [h1] at e3
      exact nI_nm (by omega) e3.symm
    rw [mLet, h3, if_neg (by omega), h1]
  · have h3 : mLtN pl (nI r) = k := by
      refine lFst_spec _ (decide_eq_true h2) 26 0 (Nat.zero_le _) (by omega) (fun j _ hj => decide_eq_false (fun e => ?_))
      obtain ⟨r2, hr2, e2, e3⟩ := h.1 j (by omega)
      have h4 : r2 = r := nI_inj (by omega) (by omega) (e2.symm.trans e)
      subst h4
      have := nI_inj (by omega) (by omega) (e3.symm.trans h1)
      omega
    rw [mLet, h3, if_pos hk, h1]
theorem finger_rel {pl lo : Nat → Int32} (h : BOK pl lo) {i : Int32} (hi : vp_in i 26) : bFin pl i = mFin (bCol pl i) ∧ vp_in (mFin (bCol pl i)) 8 := by
  obtain ⟨k, r, -, hr, -, e, -⟩ := BOK_at h hi
  have hc : r % 10 < 10 := Nat.mod_lt _ (by omega)
  rw [bFin, col_at e hr]
  generalize r % 10 = n at hc
  have key : ∀ n, n < 10 → (if nI n < 0 then -1 else if (10 : Int32) ≤ nI n then -1 else fingT (nI n).toNatClampNeg) = mFin (nI n) ∧ vp_in (mFin (nI n)) 8 := by
    intro n hn
    have hd : ∀ n, n < 10 → ((if nI n < 0 then -1 else if (10 : Int32) ≤ nI n then -1 else fingT (nI n).toNatClampNeg) = mFin (nI n) ∧ (0 ≤ (mFin (nI n)).toInt ∧ (mFin (nI n)).toInt < 8)) := by decide +kernel
    exact ⟨(hd n hn).1, vp_in_iff.mpr (hd n hn).2⟩
  exact key n hc
theorem iAbs_in : ∀ a, a < 10 → ∀ b, b < 10 → ((1 < iAbs (nI a - nI b)) ↔ bW (nI a - nI b) (-1) 1 = 0) := by decide +kernel
theorem touch_rel {pl lo : Nat → Int32} (h : BOK pl lo) {i j : Int32} (hi : vp_in i 26) (hj : vp_in j 26) : bTouch pl i j = mBes pl i j := by
  obtain ⟨k, r, -, hr, -, e, -⟩ := BOK_at h hi
  obtain ⟨k2, r2, -, hr2, -, e2, -⟩ := BOK_at h hj
  have h1 := iAbs_in (r % 10) (Nat.mod_lt _ (by omega)) (r2 % 10) (Nat.mod_lt _ (by omega))
  have h2 := iAbs_in (r / 10) (by omega) (r2 / 10) (by omega)
  rw [← col_at e hr, ← col_at e2 hr2] at h1
  rw [← row_at e hr, ← row_at e2 hr2] at h2
  rw [bTouch, mBes]
  by_cases c1 : 1 < iAbs (bCol pl i - bCol pl j)
  · rw [if_pos c1, if_pos (h1.mp c1)]
  · rw [if_neg c1, if_neg (fun x => c1 (h1.mpr x))]
    by_cases c2 : 1 < iAbs (bRow pl i - bRow pl j)
    · rw [if_pos c2, if_pos (h2.mp c2)]
    · rw [if_neg c2, if_neg (fun x => c2 (h2.mpr x))]
theorem mir_at {pl lo : Nat → Int32} (h : BOK pl lo) {i : Int32} (hi : vp_in i 26) : ∃ r, r < 30 ∧ mMir pl i = nI r ∧ bMir pl lo i = lo r := by
  obtain ⟨k, r, -, hr, -, e, -⟩ := BOK_at h hi
  have hc : r % 10 < 10 := Nat.mod_lt _ (by omega)
  have h1 : bRow pl i * 10 + 10 - 1 - bCol pl i = nI (r / 10 * 10 + 9 - r % 10) := by
    rw [col_at e hr, row_at e hr, show (10 : Int32) = nI 10 from rfl, show (1 : Int32) = nI 1 from rfl, pk_mul, nI_add, pk_sub (by omega), pk_sub (by omega)]
    congr 1
  refine ⟨r / 10 * 10 + 9 - r % 10, by omega, by rw [mMir, h1], ?_⟩
  rw [bMir, h1, cAt_nI lo (by omega) (Nat.le_of_ble_eq_true rfl)]
theorem mirror_rel {pl lo : Nat → Int32} (h : BOK pl lo) {i : Int32} (hi : vp_in i 26) : bMir pl lo i = mLet pl (mMir pl i) := by
  obtain ⟨r, hr, e1, e2⟩ := mir_at h hi
  rw [e1, e2, mLet_rel h hr]
