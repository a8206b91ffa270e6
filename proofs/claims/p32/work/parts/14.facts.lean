/-! ===== facts for the loops of the letters that are in ===== -/
theorem nz0 : vp_nar .boolean 0 = 0 := rfl
theorem nz1 : vp_nar .boolean 1 = 1 := rfl
theorem i26 {j : Nat} (h : j < 26) : j < 2 ^ 31 := Nat.lt_trans h (Nat.le_of_ble_eq_true rfl)
theorem lIn_nI (ia : Nat → Int32) {j : Nat} (h : j < 26) : lIn ia (nI j) = if ia j = 0 then 0 else 1 := by
  have h1 : ¬ nI j < 0 := nI_pos (i26 h)
  have h2 : ¬ (26 : Int32) ≤ nI j := fun hc => by
    have := (nI_leI (a := 26) (Nat.le_of_ble_eq_true rfl) (i26 h)).mp hc
    omega
  simp only [lIn, h1, h2, ↓reduceIte]
  rw [nI_clamp (i26 h)]
theorem lMsk_at (o : Nat → Bool) (j : Nat) (f : Nat → Int32) (x : Int32) : lMsk o j f x j = f j := by simp [lMsk]
theorem lIn_msk (o : Nat → Bool) (ia : Nat → Int32) (x : Int32) {j : Nat} (h : j < 26) : lIn (lMsk o j ia x) (nI j) = lIn ia (nI j) := by rw [lIn_nI _ h, lIn_nI _ h, lMsk_at]
theorem fOut_msk (o : Nat → Bool) (ct sh : Nat → Int32) (x y : Int32) {j : Nat} (h : j < 26) : fOut (lMsk o j ct x) (lMsk o j sh y) (nI j) = fOut ct sh (nI j) := by
  simp only [fOut, cAt_nI _ h (Nat.le_of_ble_eq_true rfl : 26 < 2 ^ 31), lMsk_at]
theorem lMsk_4 (o : Nat → Bool) (f : Nat → Int32) (x : Int32) : lMsk o 4 f x = f := by
  funext k
  have : ¬ ((4 ≤ k ∧ k < 4) ∧ o k = true) := fun h => by omega
  simp only [lMsk, this, ↓reduceIte]
theorem lMsk_f {o : Nat → Bool} {j : Nat} (ho : o j = false) (f : Nat → Int32) (x : Int32) : lMsk o j f x = lMsk o (j + 1) f x := by
  funext k
  by_cases h : k = j
  · subst h; simp [lMsk, ho]
  · have e : (k < j + 1) ↔ (k < j) := by omega
    simp only [lMsk, e]
theorem lMsk_t {o : Nat → Bool} {j : Nat} (ho : o j = true) (h4 : 4 ≤ j) (f : Nat → Int32) (x : Int32) : upd (lMsk o j f x) j x = lMsk o (j + 1) f x := by
  funext k
  by_cases h : k = j
  · subst h; rw [pk_us]; simp [lMsk, ho, h4]
  · rw [pk_un h]
    have e : (k < j + 1) ↔ (k < j) := by omega
    simp only [lMsk, e]
theorem lAny_4 (o : Nat → Bool) : lAny o 4 = 0 := by simp [lAny]
theorem lAny_f {o : Nat → Bool} {j : Nat} (ho : o j = false) : lAny o (j + 1) = lAny o j := by simp [lAny, ho]
theorem lAny_t {o : Nat → Bool} {j : Nat} (ho : o j = true) (h4 : 4 ≤ j) : lAny o (j + 1) = 1 := by simp [lAny, ho, h4]
theorem lGo_f1 {ia ct sh : Nat → Int32} {j : Nat} (h : lIn ia (nI j) = 0) : lGo ia ct sh j = false := by simp [lGo, h]
theorem lGo_f2 {ia ct sh : Nat → Int32} {j : Nat} (h : fOut ct sh (nI j) = 0) : lGo ia ct sh j = false := by simp [lGo, h]
theorem lGo_t {ia ct sh : Nat → Int32} {j : Nat} (h : ¬ lIn ia (nI j) = 0) (h2 : ¬ fOut ct sh (nI j) = 0) : lGo ia ct sh j = true := by simp [lGo, h, h2]
theorem lFst_t {o : Nat → Bool} {j : Nat} (ho : o j = true) (hj : j < 26) : lFst o (26 - j) j = j := by
  rw [show 26 - j = (25 - j) + 1 by omega, lFst, if_pos ho]
theorem lFst_f {o : Nat → Bool} {j : Nat} (ho : o j = false) (hj : j < 26) : lFst o (26 - j) j = lFst o (26 - (j + 1)) (j + 1) := by
  rw [show 26 - j = (26 - (j + 1)) + 1 by omega, lFst, if_neg (by rw [ho]; decide)]
theorem pFall_e1 {kp : Nat → Int32} {k r N : Nat} {x y : Int32} (hy : y = nI k ∨ (y = -1 ∧ k = 0)) (hxr : x = nI r) (hrk : r + pFall kp k = pFall kp N) (hk : k ≤ 100) (c : y ≤ 0) : x = nI (pFall kp N) := by
  have h0 : k = 0 := by
    rcases hy with rfl | ⟨-, h⟩
    · have := (nI_leI (a := k) (b := 0) (by omega) (by omega)).mp c
      omega
    · exact h
  subst h0
  rw [hxr, ← hrk]; rfl
theorem pFall_y {k : Nat} {y : Int32} (hy : y = nI k ∨ (y = -1 ∧ k = 0)) (c : ¬ y ≤ 0) : ∃ k9, k = k9 + 1 ∧ y = nI (k9 + 1) := by
  rcases hy with rfl | ⟨rfl, -⟩
  · cases k with
    | zero => exact absurd (by decide) c
    | succ k => exact ⟨k, rfl, rfl⟩
  · exact absurd (by decide) c
theorem nI_m1 (k : Nat) : nI (k + 1) - 1 = nI k := by rw [show (1 : Int32) = nI 1 from rfl, pk_sub (by omega : 1 ≤ k + 1)]; rfl
theorem pFall_e2 {kp : Nat → Int32} {k r N : Nat} {x y : Int32} (hy : y = nI k ∨ (y = -1 ∧ k = 0)) (hxr : x = nI r) (hrk : r + pFall kp k = pFall kp N) (c : ¬ y ≤ 0) (c2 : cAt 100 kp (y - 1) ≤ cAt 100 kp y) : x = nI (pFall kp N) := by
  obtain ⟨k9, rfl, rfl⟩ := pFall_y hy c
  rw [nI_m1] at c2
  have h : ¬ cAt 100 kp (nI (k9 + 1)) < cAt 100 kp (nI k9) := fun h => by
    have h1 := Int32.lt_iff_toInt_lt.mp h
    have h2 := Int32.le_iff_toInt_le.mp c2
    omega
  rw [hxr, ← hrk, pFall, if_neg h]
  rfl
theorem pFall_s {kp : Nat → Int32} {k r N : Nat} {x y : Int32} (hy : y = nI k ∨ (y = -1 ∧ k = 0)) (hxr : x = nI r) (hrk : r + pFall kp k = pFall kp N) (c : ¬ y ≤ 0) (c2 : ¬ cAt 100 kp (y - 1) ≤ cAt 100 kp y) : ∃ k9, k = k9 + 1 ∧ y + (-1) = nI k9 ∧ x + 1 = nI (r + 1) ∧ (r + 1) + pFall kp k9 = pFall kp N := by
  obtain ⟨k9, rfl, rfl⟩ := pFall_y hy c
  rw [nI_m1] at c2
  have h : cAt 100 kp (nI (k9 + 1)) < cAt 100 kp (nI k9) := by
    have h2 : ¬ (cAt 100 kp (nI k9)).toInt ≤ (cAt 100 kp (nI (k9 + 1))).toInt := fun h => c2 (Int32.le_iff_toInt_le.mpr h)
    exact Int32.lt_iff_toInt_lt.mpr (by omega)
  refine ⟨k9, rfl, pk_m1 k9, by rw [hxr]; exact nI_1 r, ?_⟩
  rw [pFall, if_pos h] at hrk
  omega
theorem lAny_n (o : Nat → Bool) : ∀ j, narrow .boolean (.int (lAny o j)) = .int (lAny o j)
  | 0 => by rw [lAny]; rfl
  | j + 1 => by
    by_cases h : 4 ≤ j ∧ o j = true
    · rw [lAny, if_pos h]; rfl
    · rw [lAny, if_neg h]; exact lAny_n o j
