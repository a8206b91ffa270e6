/-! ===== what the parts of the class compute ===== -/
def cAt (n : Nat) (f : Nat → Int32) (i : Int32) : Int32 := if i < 0 then -1 else if nI n ≤ i then -1 else f i.toNatClampNeg
def cSet (n : Nat) (f : Nat → Int32) (i x : Int32) : Nat → Int32 := if i < 0 then f else if nI n ≤ i then f else upd f i.toNatClampNeg x
def fFill (f : Nat → Int32) (x : Int32) (j : Nat) : Nat → Int32 := fun k => if k < j then x else f k
theorem fFill_0 (f : Nat → Int32) (x : Int32) : fFill f x 0 = f := by funext k; simp [fFill]
theorem fFill_s (f : Nat → Int32) (x : Int32) (j : Nat) : upd (fFill f x j) j x = fFill f x (j + 1) := by
  funext k
  by_cases h : k = j
  · subst h; rw [pk_us]; simp [fFill]
  · rw [pk_un h]; by_cases h2 : k < j
    · simp [fFill, h2, Nat.lt_succ_of_lt h2]
    · have h3 : ¬ k < j + 1 := by omega
      simp [fFill, h2, h3]
def bCol (pl : Nat → Int32) (i : Int32) : Int32 := cAt 26 pl i - cAt 26 pl i / 10 * 10
def bRow (pl : Nat → Int32) (i : Int32) : Int32 := cAt 26 pl i / 10
def bFin (pl : Nat → Int32) (i : Int32) : Int32 := if bCol pl i < 0 then -1 else if 10 ≤ bCol pl i then -1 else fingT (bCol pl i).toNatClampNeg
def iAbs (x : Int32) : Int32 := if 0 ≤ x then x else 0 - x
def bTouch (pl : Nat → Int32) (i j : Int32) : Int32 := if 1 < iAbs (bCol pl i - bCol pl j) then 0 else if 1 < iAbs (bRow pl i - bRow pl j) then 0 else 1
def bMir (pl lo : Nat → Int32) (i : Int32) : Int32 := cAt 30 lo (bRow pl i * 10 + 10 - 1 - bCol pl i)
def bMovL (pl lo : Nat → Int32) (i x : Int32) : Nat → Int32 := cSet 30 (cSet 30 lo (cAt 26 pl i) (cAt 30 lo x)) x i
def bMovP (pl lo : Nat → Int32) (i x : Int32) : Nat → Int32 := cSet 26 (if cAt 30 lo x = -1 then pl else cSet 26 pl (cAt 30 lo x) (cAt 26 pl i)) i x
