/-! ===== what stroke, drill and end compute ===== -/
def kKind (pl lo lt ty : Nat → Int32) (zz po i du : Int32) : Int32 :=
  if i = du then -1 else if i = cAt 40 ty (po - 1) then 0 else if i = tAt lt zz (po + 1) then 1 else if bTouch pl i du = 0 then (if i = bMir pl lo du then 3 else 4) else 2
def kPr (pr lt : Nat → Int32) (zz po du mo : Int32) : Nat → Int32 := if po = 0 then pr else cSet 676 pr (fPair (tAt lt zz (po - 1)) du) (fAged (cAt 676 pr (fPair (tAt lt zz (po - 1)) du)) mo)
def kErr (ek : Nat → Int32) (n : Nat) (k i : Int32) : Nat → Int32 := if k = -1 then ek else cSet n ek i (cAt n ek i + 1)
/-- a drill: the letter that comes behind j others -/
def dL (ia ti sh pr : Nat → Int32) : Nat → Int32
  | 0 => lWk ia ti sh 25
  | j + 1 => (lSb ia pr (dL ia ti sh pr j) 26).1
def dT (ia ti sh pr lt : Nat → Int32) (zn : Nat) : Nat → Nat → Int32
  | 0 => lt
  | j + 1 => cSet 40 (dT ia ti sh pr lt zn j) (nI (zn + j)) (dL ia ti sh pr j)
def dN (i : Int32) (zn : Nat) : Nat := min i.toNatClampNeg (40 - zn)
theorem dN_i {i : Int32} {zn j : Nat} (hw : ¬ bW i 1 40 = 0) (hj : j ≤ dN i zn) (c : i ≤ nI j) : j = dN i zn := by
  have h2 : ¬ 40 < i := fun h => hw (by unfold bW; split <;> first | rfl | (rw [if_pos h]))
  have h1 : ¬ i < 1 := fun h => hw (by unfold bW; rw [if_pos h])
  have h0 : ¬ i < 0 := fun h => h1 (by have := Int32.lt_iff_toInt_lt.mp h; exact Int32.lt_iff_toInt_lt.mpr (by have e1 : (1 : Int32).toInt = 1 := rfl; have e0 : (0 : Int32).toInt = 0 := rfl; omega))
  obtain ⟨k, hk, rfl⟩ := nI_of h0
  have hj2 : j ≤ 40 := Nat.le_trans hj (Nat.le_trans (Nat.min_le_right _ _) (Nat.sub_le _ _))
  have hkj := (nI_leI hk (by omega)).mp c
  simp only [dN, nI_clamp hk] at hj ⊢
  omega
theorem dN_f {i : Int32} {zn j : Nat} (hz : zn ≤ 40) (hj : j ≤ dN i zn) (c : ¬ tFull (nI (zn + j)) = 0) : j = dN i zn := by
  have hj3 : j ≤ 40 - zn := Nat.le_trans hj (Nat.min_le_right _ _)
  have h : ¬ nI (zn + j) < 40 := fun h => c (by unfold tFull; rw [if_pos h])
  have h2 : ¬ zn + j < 40 := fun h2 => h ((nI_ltI (b := 40) (by omega) (by omega)).mpr h2)
  simp only [dN] at hj ⊢
  omega
theorem dN_s {i : Int32} {zn j : Nat} (hj : j ≤ dN i zn) (hz : zn ≤ 40) (c1 : ¬ i ≤ nI j) (c2 : tFull (nI (zn + j)) = 0) : j + 1 ≤ dN i zn := by
  have hj3 : j ≤ 40 - zn := Nat.le_trans hj (Nat.min_le_right _ _)
  have h2 : zn + j < 40 := by
    refine Decidable.byContradiction fun h => ?_
    have h3 : ¬ nI (zn + j) < 40 := fun h4 => h ((nI_ltI (b := 40) (by omega) (by omega)).mp h4)
    rw [tFull, if_neg h3] at c2
    exact absurd c2 (by decide)
  have h0 : ¬ i < 0 := fun h => c1 (by
    have h1 := Int32.lt_iff_toInt_lt.mp h
    have e0 : (0 : Int32).toInt = 0 := rfl
    have e1 := nI_toInt (n := j) (by omega)
    exact Int32.le_iff_toInt_le.mpr (by omega))
  obtain ⟨k, hk, rfl⟩ := nI_of h0
  have hkj : ¬ k ≤ j := fun h => c1 ((nI_leI hk (by omega)).mpr h)
  simp only [dN, nI_clamp hk] at hj ⊢
  omega
