/-! ===== what the parts of the class compute ===== -/
def cAt (n : Nat) (f : Nat → Int32) (i : Int32) : Int32 := if i < 0 then -1 else if nI n ≤ i then -1 else f i.toNatClampNeg
def cSet (n : Nat) (f : Nat → Int32) (i x : Int32) : Nat → Int32 := if i < 0 then f else if nI n ≤ i then f else upd f i.toNatClampNeg x
def fFill (f : Nat → Int32) (x : Int32) (j : Nat) : Nat → Int32 := fun k => if k < j then x else f k
theorem fFill_0 (f : Nat → Int32) (x : Int32) : fFill f x 0 = f := by funext k; simp [fFill]
theorem fFill_s (f : Nat → Int32) (x : Int32) (j : Nat) : upd (fFill f x j) j x = fFill f x (j + 1) := by
  funext k
  by_cases h : k = j
  · subst h; rw [pk_us]; simp [fFill]
  · rw [pk_un h]; by_cases h2 : k < j
    · simp [fFill, h2, Nat.lt_succ_of_lt h2]
    · have h3 : ¬ k < j + 1 := by omega
      simp [fFill, h2, h3]
def bCol (pl : Nat → Int32) (i : Int32) : Int32 := cAt 26 pl i - cAt 26 pl i / 10 * 10
def bRow (pl : Nat → Int32) (i : Int32) : Int32 := cAt 26 pl i / 10
def bFin (pl : Nat → Int32) (i : Int32) : Int32 := if bCol pl i < 0 then -1 else if 10 ≤ bCol pl i then -1 else fingT (bCol pl i).toNatClampNeg
def iAbs (x : Int32) : Int32 := if 0 ≤ x then x else 0 - x
def bTouch (pl : Nat → Int32) (i j : Int32) : Int32 := if 1 < iAbs (bCol pl i - bCol pl j) then 0 else if 1 < iAbs (bRow pl i - bRow pl j) then 0 else 1
def bMir (pl lo : Nat → Int32) (i : Int32) : Int32 := cAt 30 lo (bRow pl i * 10 + 10 - 1 - bCol pl i)
def bMovL (pl lo : Nat → Int32) (i x : Int32) : Nat → Int32 := cSet 30 (cSet 30 lo (cAt 26 pl i) (cAt 30 lo x)) x i
def bMovP (pl lo : Nat → Int32) (i x : Int32) : Nat → Int32 := cSet 26 (if cAt 30 lo x = -1 then pl else cSet 26 pl (cAt 30 lo x) (cAt 26 pl i)) i x
theorem cAt_nI {n j : Nat} (f : Nat → Int32) (hj : j < n) (hn : n < 2 ^ 31) : cAt n f (nI j) = f j := by
  have h1 : ¬ nI j < 0 := nI_pos (Nat.lt_trans hj hn)
  have h2 : ¬ nI n ≤ nI j := fun h => by have := (nI_leI hn (Nat.lt_trans hj hn)).mp h; omega
  simp only [cAt, h1, h2, ↓reduceIte]
  rw [nI_clamp (Nat.lt_trans hj hn)]
theorem cSet_nI {n j : Nat} (f : Nat → Int32) (x : Int32) (hj : j < n) (hn : n < 2 ^ 31) : cSet n f (nI j) x = upd f j x := by
  have h1 : ¬ nI j < 0 := nI_pos (Nat.lt_trans hj hn)
  have h2 : ¬ nI n ≤ nI j := fun h => by have := (nI_leI hn (Nat.lt_trans hj hn)).mp h; omega
  simp only [cSet, h1, h2, ↓reduceIte]
  rw [nI_clamp (Nat.lt_trans hj hn)]
def fAged (t mo : Int32) : Int32 := (3 * t + mo) / 4
def fPair (i j : Int32) : Int32 := i * 26 + j
def fShr (s w : Int32) : Int32 := (7 * s + (if w = 0 then 0 else 10000)) / 8
def fGood (ct ti sh : Nat → Int32) (wt wh i : Int32) : Int32 := if cAt 26 ct i < 3 then 0 else if wt < cAt 26 ti i then 0 else if wh < cAt 26 sh i then 0 else 1
def fOut (ct sh : Nat → Int32) (i : Int32) : Int32 := if cAt 26 ct i < 3 then 0 else if cAt 26 sh i ≤ 5000 then 0 else 1
def fWeak (ti sh : Nat → Int32) (i j : Int32) : Int32 := if cAt 26 sh i = cAt 26 sh j then (if cAt 26 ti i ≤ cAt 26 ti j then 0 else 1) else (if cAt 26 sh i ≤ cAt 26 sh j then 0 else 1)
def fHalf (ct : Nat → Int32) (j : Nat) : Nat → Int32 := fun k => if k < j then ct k / 2 else ct k
theorem fHalf_0 (ct : Nat → Int32) : fHalf ct 0 = ct := by funext k; simp [fHalf]
theorem fHalf_s (ct : Nat → Int32) {j : Nat} (hj : j < 26) : cSet 26 (fHalf ct j) (nI j) (cAt 26 (fHalf ct j) (nI j) / 2) = fHalf ct (j + 1) := by
  rw [cAt_nI _ hj (Nat.le_of_ble_eq_true rfl), cSet_nI _ _ hj (Nat.le_of_ble_eq_true rfl)]
  funext k
  by_cases h : k = j
  · subst h; rw [pk_us]; simp [fHalf]
  · rw [pk_un h]; by_cases h2 : k < j
    · simp [fHalf, h2, Nat.lt_succ_of_lt h2]
    · have h3 : ¬ k < j + 1 := by omega
      simp [fHalf, h2, h3]
def tFull (zz : Int32) : Int32 := if zz < 40 then 0 else 1
def tAt (lt : Nat → Int32) (zz i : Int32) : Int32 := if zz ≤ i then -1 else cAt 40 lt i
def tRight (lt ty : Nat → Int32) : Nat → Int32
  | 0 => 0
  | j + 1 => if cAt 40 ty (nI j) = cAt 40 lt (nI j) then tRight lt ty j + 1 else tRight lt ty j
def tSpeed (lt ty : Nat → Int32) (ps : Nat) (ml : Int32) : Int32 := if 0 < ml then tRight lt ty ps * 60000 / ml else 0
def pFull (zz : Int32) : Int32 := if zz < 100 then 0 else 1
def pFall (kp : Nat → Int32) : Nat → Nat
  | 0 => 0
  | k + 1 => if cAt 100 kp (nI (k + 1)) < cAt 100 kp (nI k) then pFall kp k + 1 else 0
def lIn (ia : Nat → Int32) (i : Int32) : Int32 := if i < 0 then 0 else if 26 ≤ i then 0 else if ia i.toNatClampNeg = 0 then 0 else 1
def lWk (ia ti sh : Nat → Int32) : Nat → Int32
  | 0 => 0
  | j + 1 => if lIn ia (nI (j + 1)) = 0 then lWk ia ti sh j else if fWeak ti sh (nI (j + 1)) (lWk ia ti sh j) = 0 then lWk ia ti sh j else nI (j + 1)
def lSb (ia pr : Nat → Int32) (b : Int32) : Nat → Int32 × Int32
  | 0 => (-1, -1)
  | j + 1 => if lIn ia (nI j) = 0 then lSb ia pr b j else if nI j = b then lSb ia pr b j else if cAt 676 pr (fPair b (nI j)) ≤ (lSb ia pr b j).2 then lSb ia pr b j else (nI j, cAt 676 pr (fPair b (nI j)))
/-- which letters are taken out, and what that leaves -/
def lGo (ia ct sh : Nat → Int32) (k : Nat) : Bool := decide (¬ lIn ia (nI k) = 0) && decide (¬ fOut ct sh (nI k) = 0)
def lMsk (o : Nat → Bool) (j : Nat) (f : Nat → Int32) (x : Int32) : Nat → Int32 := fun k => if (4 ≤ k ∧ k < j) ∧ o k = true then x else f k
def lAny (o : Nat → Bool) : Nat → Int32
  | 0 => 0
  | j + 1 => if 4 ≤ j ∧ o j = true then 1 else lAny o j
abbrev lAll (ia ct ti sh : Nat → Int32) (wt wh : Int32) : Prop := ∀ k, k < 26 → lIn ia (nI k) = 0 ∨ ¬ fGood ct ti sh wt wh (nI k) = 0
def lFst (o : Nat → Bool) : Nat → Nat → Nat
  | 0, i => i
  | f + 1, i => if o i = true then i else lFst o f (i + 1)
def lNew (ia : Nat → Int32) : Nat := lFst (fun k => decide (lIn ia (nI k) = 0)) 26 0
def lLetV (ia : Nat → Int32) : Int32 := if lNew ia < 26 then nI (lNew ia) else -1
def lLetI (ia : Nat → Int32) : Nat → Int32 := if lNew ia < 26 then upd ia (lNew ia) 1 else ia
def lAgI (ia ct ti sh : Nat → Int32) (wt wh : Int32) : Int32 := if lAll ia ct ti sh wt wh then 1 else 0
abbrev lM1 (ia ct sh f : Nat → Int32) (x : Int32) : Nat → Int32 := lMsk (lGo ia ct sh) 26 f x
def lRevV (ia ct ti sh : Nat → Int32) (wt wh : Int32) : Int32 := if lAny (lGo ia ct sh) 26 = 0 then (if lAgI (lM1 ia ct sh ia 0) (lM1 ia ct sh ct 0) (lM1 ia ct sh ti 400) (lM1 ia ct sh sh 0) wt wh = 0 then -1 else lLetV (lM1 ia ct sh ia 0)) else -1
def lRevI (ia ct ti sh : Nat → Int32) (wt wh : Int32) : Nat → Int32 := if lAny (lGo ia ct sh) 26 = 0 then (if lAgI (lM1 ia ct sh ia 0) (lM1 ia ct sh ct 0) (lM1 ia ct sh ti 400) (lM1 ia ct sh sh 0) wt wh = 0 then lM1 ia ct sh ia 0 else lLetI (lM1 ia ct sh ia 0)) else lM1 ia ct sh ia 0
