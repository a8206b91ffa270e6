/-! ===== facts for the model's public calls ===== -/
theorem mLow_s0 {ia : Nat → Int32} {j : Nat} (h : j < 26) (z : lIn ia (nI j) = 0) : nI j = mLow ia (26 - j) := by
  rw [show 26 - j = (25 - j) + 1 by omega, mLow, show 25 - (25 - j) = j by omega, if_pos z]
theorem mLow_s1 {ia : Nat → Int32} {j : Nat} (h : j < 26) (z : ¬ lIn ia (nI j) = 0) : mLow ia (26 - (j + 1)) = mLow ia (26 - j) := by
  rw [show 26 - j = (26 - (j + 1)) + 1 by omega, mLow, show 25 - (26 - (j + 1)) = j by omega, if_neg z]
theorem mLow_f (ia : Nat → Int32) : ∀ f, f ≤ 26 → mLow ia f = if lFst (fun k => decide (lIn ia (nI k) = 0)) f (26 - f) < 26 then nI (lFst (fun k => decide (lIn ia (nI k) = 0)) f (26 - f)) else -1
  | 0, _ => by rw [mLow, lFst, if_neg (by omega)]
  | f + 1, h => by
    rw [mLow, lFst, show 26 - (f + 1) = 25 - f by omega]
    by_cases z : lIn ia (nI (25 - f)) = 0
    · rw [if_pos z, if_pos (decide_eq_true z), if_pos (by omega)]
    · rw [if_neg z, if_neg (fun (h9 : decide (lIn ia (nI (25 - f)) = 0) = true) => z (of_decide_eq_true h9)), show 25 - f + 1 = 26 - f by omega]
      exact mLow_f ia f (by omega)
theorem mLow_26 (ia : Nat → Int32) : mLow ia 26 = lLetV ia := mLow_f ia 26 (Nat.le_refl _)
theorem lLet_cases (ia : Nat → Int32) : (lLetV ia = -1 ∧ lLetI ia = ia) ∨ ∃ k, k < 26 ∧ lLetV ia = nI k ∧ lLetI ia = upd ia k 1 := by
  by_cases h : lNew ia < 26
  · exact Or.inr ⟨lNew ia, h, by rw [lLetV, if_pos h], by rw [lLetI, if_pos h]⟩
  · exact Or.inl ⟨by rw [lLetV, if_neg h], by rw [lLetI, if_neg h]⟩
theorem nI_m1' (j : Nat) : nI (j + 1) + (-1) = nI j := pk_m1 j
theorem nI_nm {k : Nat} (h : k < 2 ^ 31) : ¬ nI k = -1 := fun e => by
  have h1 := nI_toInt h
  rw [e] at h1
  have e1 : (-1 : Int32).toInt = -1 := rfl
  omega
def mLetV (ia ct ti sh : Nat → Int32) (wt wh : Int32) : Int32 := if lAgI ia ct ti sh wt wh = 0 then -1 else lLetV ia
def mLetI (ia ct ti sh : Nat → Int32) (wt wh : Int32) : Nat → Int32 := if lAgI ia ct ti sh wt wh = 0 then ia else lLetI ia
theorem lAg_no {ia ct ti sh : Nat → Int32} {wt wh : Int32} {j : Nat} (hj : j < 26) (h1 : ¬ lIn ia (nI j) = 0) (h2 : fGood ct ti sh wt wh (nI j) = 0) : lAgI ia ct ti sh wt wh = 0 := by
  rw [lAgI, if_neg (fun h => (h j hj).elim h1 (fun h3 => h3 h2))]
theorem lAg_yes {ia ct ti sh : Nat → Int32} {wt wh : Int32} (h : ∀ k, k < 26 → lIn ia (nI k) = 0 ∨ ¬ fGood ct ti sh wt wh (nI k) = 0) : ¬ lAgI ia ct ti sh wt wh = 0 := by
  rw [lAgI, if_pos h]; decide
theorem mLet_no {ia ct ti sh : Nat → Int32} {wt wh : Int32} (h : lAgI ia ct ti sh wt wh = 0) : mLetV ia ct ti sh wt wh = -1 ∧ mLetI ia ct ti sh wt wh = ia := ⟨by rw [mLetV, if_pos h], by rw [mLetI, if_pos h]⟩
theorem mLet_yes {ia ct ti sh : Nat → Int32} {wt wh : Int32} (h : ¬ lAgI ia ct ti sh wt wh = 0) : mLetV ia ct ti sh wt wh = lLetV ia ∧ mLetI ia ct ti sh wt wh = lLetI ia := ⟨by rw [mLetV, if_neg h], by rw [mLetI, if_neg h]⟩
/-- positions -/
theorem pm1 {po : Int32} {ps : Nat} (h : po = nI ps) (h40 : ps ≤ 40) (c : ¬ po ≤ 0) : vp_in (po - 1) 40 ∧ ∃ k, ps = k + 1 ∧ po - 1 = nI k := by
  subst h
  cases ps with
  | zero => exact absurd (by decide) c
  | succ k => rw [nI_m1]; exact ⟨vp_in_nI (by omega) (by omega), k, rfl, rfl⟩
theorem pp1 {po zz : Int32} {ps zn : Nat} (h : po = nI ps) (hz : zz = nI zn) (h40 : zn ≤ 40) (hps : ps ≤ 40) (c : ¬ zz ≤ po + 1) : vp_in (po + 1) 40 ∧ ps + 1 < zn := by
  subst h; subst hz
  rw [nI_1] at c ⊢
  have h2 : ¬ zn ≤ ps + 1 := fun h => c ((nI_leI (by omega) (by omega)).mpr h)
  exact ⟨vp_in_nI (by omega) (by omega), by omega⟩
/-- falls, counted by the model -/
theorem fl_e1 {kp : Nat → Int32} {sn : Int32} {zn r : Nat} (hz : sn = nI zn) (hz1 : zn ≤ 100) (hle : r ≤ zn - 1) (hr : r + pFall kp (zn - 1 - r) = pFall kp (zn - 1)) (c : sn ≤ nI r + 1) : nI r = nI (pFall kp (zn - 1)) := by
  subst hz
  rw [nI_1] at c
  have h := (nI_leI (by omega) (by omega)).mp c
  rw [← hr, show zn - 1 - r = 0 by omega]; rfl
theorem fl_k {sn : Int32} {zn r : Nat} (hz : sn = nI zn) (hz1 : zn ≤ 100) (hle : r ≤ zn - 1) (c : ¬ sn ≤ nI r + 1) : ∃ k, zn - 1 - r = k + 1 ∧ k + 1 < 100 ∧ sn - 1 - nI r = nI (k + 1) ∧ sn - 2 - nI r = nI k := by
  subst hz
  rw [nI_1] at c
  have h : ¬ zn ≤ r + 1 := fun h => c ((nI_leI (by omega) (by omega)).mpr h)
  refine ⟨zn - 1 - r - 1, by omega, by omega, ?_, ?_⟩
  · rw [show (1 : Int32) = nI 1 from rfl, pk_sub (by omega), pk_sub (by omega)]; congr 1; omega
  · rw [show (2 : Int32) = nI 2 from rfl, pk_sub (by omega), pk_sub (by omega)]; congr 1; omega
theorem fl_in1 {sn : Int32} {zn r : Nat} (hz : sn = nI zn) (hz1 : zn ≤ 100) (hle : r ≤ zn - 1) (c : ¬ sn ≤ nI r + 1) : vp_in (sn - 1 - nI r) 100 := by
  obtain ⟨k, h1, h2, h3, h4⟩ := fl_k hz hz1 hle c
  rw [h3]; exact vp_in_nI h2 (by omega)
theorem fl_in2 {sn : Int32} {zn r : Nat} (hz : sn = nI zn) (hz1 : zn ≤ 100) (hle : r ≤ zn - 1) (c : ¬ sn ≤ nI r + 1) : vp_in (sn - 2 - nI r) 100 := by
  obtain ⟨k, h1, h2, h3, h4⟩ := fl_k hz hz1 hle c
  rw [h4]; exact vp_in_nI (by omega) (by omega)
theorem fl_e2 {kp : Nat → Int32} {sn : Int32} {zn r : Nat} (hz : sn = nI zn) (hz1 : zn ≤ 100) (hle : r ≤ zn - 1) (hr : r + pFall kp (zn - 1 - r) = pFall kp (zn - 1)) (c : ¬ sn ≤ nI r + 1) (c2 : cAt 100 kp (sn - 2 - nI r) ≤ cAt 100 kp (sn - 1 - nI r)) : nI r = nI (pFall kp (zn - 1)) := by
  obtain ⟨k, h1, h2, h3, h4⟩ := fl_k hz hz1 hle c
  rw [h3, h4] at c2
  have h : ¬ cAt 100 kp (nI (k + 1)) < cAt 100 kp (nI k) := fun h => i_lt_nle h c2
  rw [h1, pFall, if_neg h] at hr
  rw [← hr]; rfl
theorem fl_s {kp : Nat → Int32} {sn : Int32} {zn r : Nat} (hz : sn = nI zn) (hz1 : zn ≤ 100) (hle : r ≤ zn - 1) (hr : r + pFall kp (zn - 1 - r) = pFall kp (zn - 1)) (c : ¬ sn ≤ nI r + 1) (c2 : ¬ cAt 100 kp (sn - 2 - nI r) ≤ cAt 100 kp (sn - 1 - nI r)) : r + 1 ≤ zn - 1 ∧ (r + 1) + pFall kp (zn - 1 - (r + 1)) = pFall kp (zn - 1) := by
  obtain ⟨k, h1, h2, h3, h4⟩ := fl_k hz hz1 hle c
  rw [h3, h4] at c2
  have h : cAt 100 kp (nI (k + 1)) < cAt 100 kp (nI k) := by
    have h5 : ¬ (cAt 100 kp (nI k)).toInt ≤ (cAt 100 kp (nI (k + 1))).toInt := fun h => c2 (Int32.le_iff_toInt_le.mpr h)
    exact Int32.lt_iff_toInt_lt.mpr (by omega)
  rw [h1, pFall, if_pos h] at hr
  rw [show zn - 1 - (r + 1) = k by omega]
  exact ⟨by omega, by omega⟩
/-- the letters of a drill are letters -/
abbrev inOk (ia : Nat → Int32) : Prop := ∀ k, k < 4 → ¬ ia k = 0
theorem lWk_in (ia ti sh : Nat → Int32) : ∀ j, j ≤ 25 → vp_in (lWk ia ti sh j) 26
  | 0, _ => vp_in_nI (n := 0) (by omega) (by omega)
  | j + 1, h => by
    rw [lWk]
    split
    · exact lWk_in ia ti sh j (by omega)
    · split
      · exact lWk_in ia ti sh j (by omega)
      · exact vp_in_nI (by omega) (by omega)
theorem lSb_ok {ia pr : Nat → Int32} {b : Int32} : ∀ j, j ≤ 26 → sbOk pr b (lSb ia pr b j).1 (lSb ia pr b j).2
  | 0, _ => Or.inl ⟨rfl, rfl⟩
  | j + 1, h => by
    rw [lSb]
    split
    · exact lSb_ok j (by omega)
    · split
      · exact lSb_ok j (by omega)
      · split
        · exact lSb_ok j (by omega)
        · exact Or.inr ⟨vp_in_nI (by omega) (by omega), rfl⟩
theorem lSb_nm {ia pr : Nat → Int32} {b : Int32} (hpr : prOk pr) (hb : vp_in b 26) {k : Nat} (hk : ¬ lIn ia (nI k) = 0) (hkb : ¬ nI k = b) : ∀ j, k < j → j ≤ 26 → ¬ (lSb ia pr b j).1 = -1
  | 0, h, _ => absurd h (Nat.not_lt_zero k)
  | j + 1, h, h26 => by
    by_cases e : k = j
    · subst e
      by_cases c : cAt 676 pr (fPair b (nI k)) ≤ (lSb ia pr b k).2
      · rw [lSb_f c]
        intro h1
        rcases lSb_ok (ia := ia) (pr := pr) (b := b) k (by omega) with ⟨-, h2⟩ | ⟨h2, -⟩
        · rw [h2] at c
          exact prOk_at hpr hb (vp_in_nI (by omega) (by omega)) c
        · rw [h1] at h2; exact nvp1 h2
      · rw [lSb_t hk hkb c]; exact nI_nm (by omega)
    · have ih := lSb_nm hpr hb hk hkb j (by omega) (by omega)
      rw [lSb]
      split
      · exact ih
      · split
        · exact ih
        · split
          · exact ih
          · exact nI_nm (by omega)
theorem lSb_in {ia pr : Nat → Int32} {b : Int32} (hin : inOk ia) (hpr : prOk pr) (hb : vp_in b 26) : vp_in (lSb ia pr b 26).1 26 := by
  have hl : ∀ k, k < 4 → ¬ lIn ia (nI k) = 0 := fun k hk => by rw [lIn_nI ia (by omega), if_neg (hin k hk)]; decide
  have h : ¬ (lSb ia pr b 26).1 = -1 := by
    by_cases e : nI 0 = b
    · exact lSb_nm hpr hb (hl 1 (by omega)) (fun e2 => absurd (e.trans e2.symm) (by decide)) 26 (by omega) (Nat.le_refl _)
    · exact lSb_nm hpr hb (hl 0 (by omega)) e 26 (by omega) (Nat.le_refl _)
  rcases lSb_ok (ia := ia) (pr := pr) (b := b) 26 (Nat.le_refl _) with ⟨h1, -⟩ | ⟨h1, -⟩
  · exact absurd h1 h
  · exact h1
theorem dL_in {ia ti sh pr : Nat → Int32} (hin : inOk ia) (hpr : prOk pr) : ∀ j, vp_in (dL ia ti sh pr j) 26
  | 0 => lWk_in ia ti sh 25 (Nat.le_refl _)
  | j + 1 => lSb_in hin hpr (dL_in hin hpr j)
theorem tF_40 {k : Nat} (h : k < 2 ^ 31) (c : ¬ (40 : Int32) ≤ nI k) : tFull (nI k) = 0 := by
  have h1 : nI k < 40 := (nI_ltI (b := 40) h (by omega)).mpr (by
    have : ¬ 40 ≤ k := fun h2 => c ((nI_leI (a := 40) (by omega) h).mpr h2)
    omega)
  rw [tFull, if_pos h1]
theorem tF_no {k : Nat} (h : k < 2 ^ 31) (c : (40 : Int32) ≤ nI k) : ¬ tFull (nI k) = 0 := by
  have h1 : ¬ nI k < 40 := fun h1 => i_lt_nle h1 c
  rw [tFull, if_neg h1]; decide
theorem z40 {k : Nat} (h : k < 2 ^ 31) (c : ¬ (40 : Int32) ≤ nI k) : vp_in (nI k) 40 := vp_in_nI (by
    have : ¬ 40 ≤ k := fun h2 => c ((nI_leI (a := 40) (by omega) h).mpr h2)
    omega) (by omega)
theorem fShr_0 (s : Int32) : fShr s 0 = (7 * s + 0) / 8 := rfl
theorem fShr_1 (s : Int32) : fShr s 1 = (7 * s + 10000) / 8 := rfl
def mPr (pr lt : Nat → Int32) (po du mo : Int32) : Nat → Int32 := if po ≤ 0 then pr else cSet 676 pr (26 * cAt 40 lt (po - 1) + du) ((3 * cAt 676 pr (26 * cAt 40 lt (po - 1) + du) + mo) / 4)
def mAdd (f : Nat → Int32) (n : Nat) (i du k : Int32) : Nat → Int32 := if i = du then f else cSet n f k (cAt n f k + 1)
def mKind (pl lt ty : Nat → Int32) (zz po i : Int32) : Int32 := if i = cAt 40 lt po then -1 else mErr pl lt ty zz po i
def mShr (s i du : Int32) : Int32 := if i = du then (7 * s + 0) / 8 else (7 * s + 10000) / 8
