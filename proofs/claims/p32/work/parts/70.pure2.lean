/-! ===== what the checks rest on: boards, figures, lessons ===== -/
theorem jlt {a k : Nat} (ha : a < 2 ^ 31) (hk : k < 2 ^ 31) (c : ¬ nI a ≤ nI k) : k < a := by
  refine Decidable.byContradiction fun h => c ((nI_leI ha hk).mpr (by omega))
theorem jge {a k : Nat} (ha : a < 2 ^ 31) (hk : k < 2 ^ 31) (c : nI a ≤ nI k) : a ≤ k := (nI_leI ha hk).mp c
theorem near10 : ∀ a, a < 10 → ∀ b, b < 10 → ((1 < iAbs (nI a - nI b)) ↔ ¬ (a ≤ b + 1 ∧ b ≤ a + 1)) := by decide +kernel
def nearB (r t : Nat) : Bool := decide ((r % 10 ≤ t % 10 + 1 ∧ t % 10 ≤ r % 10 + 1) ∧ (r / 10 ≤ t / 10 + 1 ∧ t / 10 ≤ r / 10 + 1))
theorem nearB_sym (r t : Nat) : nearB r t = nearB t r := decide_eq_decide.mpr ⟨fun ⟨⟨a, b⟩, c, d⟩ => ⟨⟨b, a⟩, d, c⟩, fun ⟨⟨a, b⟩, c, d⟩ => ⟨⟨b, a⟩, d, c⟩⟩
theorem touch_at {pl : Fn} {i j : Int32} {r t : Nat} (h1 : cAt 26 pl i = nI r) (hr : r < 30) (h2 : cAt 26 pl j = nI t) (ht : t < 30) : bTouch pl i j = if nearB r t = true then 1 else 0 := by
  have c := near10 (r % 10) (Nat.mod_lt _ (by omega)) (t % 10) (Nat.mod_lt _ (by omega))
  have d := near10 (r / 10) (by omega) (t / 10) (by omega)
  rw [bTouch, col_at h1 hr, col_at h2 ht, row_at h1 hr, row_at h2 ht]
  by_cases hc : 1 < iAbs (nI (r % 10) - nI (t % 10))
  · rw [if_pos hc, if_neg (fun q => c.mp hc (of_decide_eq_true q).1)]
  · rw [if_neg hc]
    by_cases hd : 1 < iAbs (nI (r / 10) - nI (t / 10))
    · rw [if_pos hd, if_neg (fun q => d.mp hd (of_decide_eq_true q).2)]
    · rw [if_neg hd, if_pos (show nearB r t = true from decide_eq_true ⟨Decidable.byContradiction fun q => hc (c.mpr q), Decidable.byContradiction fun q => hd (d.mpr q)⟩)]
theorem cat_k {pl : Fn} {k r : Nat} (hk : k < 26) (e : pl k = nI r) : cAt 26 pl (nI k) = nI r := by rw [cAt_nI pl hk (by omega), e]
theorem touch_sym {pl lo : Fn} (h : BOK pl lo) {k j : Nat} (hk : k < 26) (hj : j < 26) : bTouch pl (nI k) (nI j) = bTouch pl (nI j) (nI k) := by
  obtain ⟨r, hr, e, -⟩ := h.1 k hk
  obtain ⟨t, ht, e2, -⟩ := h.1 j hj
  rw [touch_at (cat_k hk e) hr (cat_k hj e2) ht, touch_at (cat_k hj e2) ht (cat_k hk e) hr, nearB_sym]
theorem touch_self {pl lo : Fn} (h : BOK pl lo) {k : Nat} (hk : k < 26) : ¬ bTouch pl (nI k) (nI k) = 0 := by
  obtain ⟨r, hr, e, -⟩ := h.1 k hk
  rw [touch_at (cat_k hk e) hr (cat_k hk e) hr, if_pos (show nearB r r = true from decide_eq_true ⟨⟨by omega, by omega⟩, by omega, by omega⟩)]; decide
theorem mir_ex {pl lo : Fn} {k r : Nat} (hk : k < 26) (hr : r < 30) (e : pl k = nI r) : bMir pl lo (nI k) = lo (r / 10 * 10 + 9 - r % 10) := by
  have hc : r % 10 < 10 := Nat.mod_lt _ (by omega)
  have h1 : bRow pl (nI k) * 10 + 10 - 1 - bCol pl (nI k) = nI (r / 10 * 10 + 9 - r % 10) := by
    rw [col_at (cat_k hk e) hr, row_at (cat_k hk e) hr, show (10 : Int32) = nI 10 from rfl, show (1 : Int32) = nI 1 from rfl, pk_mul, nI_add, pk_sub (by omega), pk_sub (by omega)]
    congr 1
  rw [bMir, h1, cAt_nI lo (by omega) (by omega)]
theorem fin_at {pl : Fn} {k r : Nat} (hk : k < 26) (hr : r < 30) (e : pl k = nI r) : bFin pl (nI k) = fingT (r % 10) := by
  have hc : r % 10 < 10 := Nat.mod_lt _ (by omega)
  rw [bFin, col_at (cat_k hk e) hr, if_neg (nI_pos (by omega)), if_neg (fun q => by have := (nI_leI (a := 10) (by omega) (by omega)).mp q; omega), nI_clamp (by omega)]
theorem fin7 : ∀ c, c < 10 → fingT (9 - c) + fingT c = 7 := by decide +kernel
theorem fin8 : ∀ c, c < 10 → (¬ fingT c < 0 ∧ ¬ 8 ≤ fingT c) := by decide +kernel
theorem fin_in {pl lo : Fn} (h : BOK pl lo) {k : Nat} (hk : k < 26) : ¬ bFin pl (nI k) < 0 ∧ ¬ 8 ≤ bFin pl (nI k) := by
  obtain ⟨r, hr, e, -⟩ := h.1 k hk
  rw [fin_at hk hr e]
  exact fin8 _ (Nat.mod_lt _ (by omega))
theorem nI_n1 {j : Nat} (h : j < 2 ^ 31) : ¬ nI j < -1 := fun h1 => by
  have h2 := Int32.lt_iff_toInt_lt.mp h1
  rw [nI_toInt h] at h2
  have e1 : (-1 : Int32).toInt = -1 := rfl
  omega
theorem mir_facts {pl lo : Fn} (h : BOK pl lo) {k : Nat} (hk : k < 26) : ¬ bMir pl lo (nI k) < -1 ∧ ¬ bMir pl lo (nI k) = nI k ∧ ¬ 26 ≤ bMir pl lo (nI k) ∧
    (¬ bMir pl lo (nI k) < 0 → ¬ bW (bMir pl lo (nI k)) 0 25 = 0 ∧ bMir pl lo (bMir pl lo (nI k)) = nI k ∧ bFin pl (bMir pl lo (nI k)) + bFin pl (nI k) = 7) := by
  obtain ⟨r, hr, e, e2⟩ := h.1 k hk
  have hm := mir_ex (lo := lo) hk hr e
  obtain ⟨t, ht⟩ : ∃ t, t = r / 10 * 10 + 9 - r % 10 := ⟨_, rfl⟩
  have hc : r % 10 < 10 := Nat.mod_lt _ (by omega)
  have t1 : t < 30 := by omega
  have t2 : t % 10 = 9 - r % 10 := by omega
  have t3 : t / 10 * 10 + 9 - t % 10 = r := by omega
  rw [hm, ← ht]
  rcases h.2 t t1 with h1 | ⟨j, hj, h1, h2⟩
  · rw [h1]
    exact ⟨by decide, fun q => nI_nm (by omega) q.symm, by decide, fun q => absurd (by decide) q⟩
  · rw [h1]
    refine ⟨nI_n1 (by omega), fun q => ?_, fun q => ?_, fun _ => ⟨bW_ok (b := 25) (by omega) (by omega), ?_, ?_⟩⟩
    · have q2 : j = k := nI_inj (by omega) (by omega) q
      subst q2
      have q3 : t = r := nI_inj (by omega) (by omega) (h2.symm.trans e)
      omega
    · have := (nI_leI (a := 26) (by omega) (by omega)).mp q; omega
    · rw [mir_ex hj t1 h2, t3, e2]
    · rw [fin_at hj t1 h2, fin_at hk hr e, t2]; exact fin7 _ hc
def cnt (o : Nat → Bool) : Nat → Nat
  | 0 => 0
  | j + 1 => if o j = true then cnt o j + 1 else cnt o j
theorem cnt_le {o p : Nat → Bool} (h : ∀ j, o j = true → p j = true) : ∀ n, cnt o n ≤ cnt p n
  | 0 => Nat.le_refl _
  | n + 1 => by
    have ih := cnt_le h n
    rw [cnt, cnt]
    by_cases q : o n = true
    · rw [if_pos q, if_pos (h n q)]; omega
    · rw [if_neg q]; split <;> omega
theorem cnt_cg {o p : Nat → Bool} : ∀ n, (∀ j, j < n → o j = p j) → cnt o n = cnt p n
  | 0, _ => rfl
  | n + 1, h => by rw [cnt, cnt, cnt_cg n (fun j hj => h j (by omega)), h n (by omega)]
theorem cnt_f : ∀ n, cnt (fun _ => false) n = 0
  | 0 => rfl
  | n + 1 => by rw [cnt, cnt_f n]; rfl
theorem cnt_one {o p : Nat → Bool} {a : Nat} (h0 : o a = false) : ∀ n, a < n → (∀ j, j < n → j ≠ a → p j = o j) → cnt p n = cnt o n + (if p a = true then 1 else 0)
  | 0, h, _ => by omega
  | n + 1, h, hj => by
    rw [cnt, cnt]
    by_cases e : n = a
    · subst e
      rw [cnt_cg (o := p) (p := o) n (fun j h1 => hj j (by omega) (by omega)), h0]
      split <;> simp
    · rw [hj n (by omega) e, cnt_one h0 n (by omega) (fun j h1 h2 => hj j (by omega) h2)]
      split <;> omega
theorem near9 : ∀ r, r < 30 → cnt (nearB r) 30 ≤ 9 := by decide +kernel
def tO (pl : Fn) (k : Nat) (j : Nat) : Bool := decide (¬ bTouch pl (nI k) (nI j) = 0)
theorem beside9 {pl lo : Fn} (h : BOK pl lo) {k : Nat} (hk : k < 26) : cnt (tO pl k) 26 ≤ 9 := by
  obtain ⟨r, hr, e, -⟩ := h.1 k hk
  have key : ∀ n, n ≤ 26 → cnt (tO pl k) n = cnt (fun t => nearB r t && decide (¬ lo t = -1 ∧ (lo t).toNatClampNeg < n)) 30 := by
    intro n
    induction n with
    | zero =>
      intro _
      rw [cnt_cg (p := fun _ => false) 30 (fun j _ => by simp), cnt_f]; rfl
    | succ n ih =>
      intro hn
      obtain ⟨t, ht, e1, e2⟩ := h.1 n (by omega)
      have hcl : (lo t).toNatClampNeg = n := by rw [e2, nI_clamp (by omega)]
      rw [cnt_one (o := fun t => nearB r t && decide (¬ lo t = -1 ∧ (lo t).toNatClampNeg < n)) (a := t) (by simp [hcl]) 30 ht (fun j hj hne => ?_), ← ih (by omega), cnt]
      · have hd : decide (¬ lo t = -1 ∧ (lo t).toNatClampNeg < n + 1) = true := decide_eq_true ⟨by rw [e2]; exact nI_nm (by omega), by omega⟩
        rw [hd, Bool.and_true, tO, touch_at (cat_k hk e) hr (cat_k (by omega) e1) ht]
        by_cases q : nearB r t = true
        · rw [if_pos q, if_pos q, if_pos (by decide)]
        · rw [if_neg q, if_neg q, if_neg (by decide)]; rfl
      · have hd : decide (¬ lo j = -1 ∧ (lo j).toNatClampNeg < n + 1) = decide (¬ lo j = -1 ∧ (lo j).toNatClampNeg < n) := by
          refine decide_eq_decide.mpr ⟨fun q => ⟨q.1, ?_⟩, fun q => ⟨q.1, by omega⟩⟩
          rcases h.2 j hj with h1 | ⟨m, hm, h1, h2⟩
          · exact absurd h1 q.1
          · have q2 := q.2
            rw [h1, nI_clamp (by omega)] at q2 ⊢
            have : m ≠ n := fun q3 => by
              subst q3
              exact hne (nI_inj (by omega) (by omega) (h2.symm.trans e1))
            omega
        rw [hd]
  rw [key 26 (Nat.le_refl _)]
  exact Nat.le_trans (cnt_le (fun j q => (Bool.and_eq_true_iff.mp q).1) 30) (near9 r hr)
theorem cnt_s0 {pl : Fn} {k j : Nat} (h : bTouch pl (nI k) (nI j) = 0) : nI (cnt (tO pl k) j) + 0 = nI (cnt (tO pl k) (j + 1)) := by
  have q : tO pl k j = false := decide_eq_false (fun q => q h)
  rw [cnt, q, if_neg (by decide), Int32.add_zero]
theorem cnt_s1 {pl : Fn} {k j : Nat} (h : ¬ bTouch pl (nI k) (nI j) = 0) : nI (cnt (tO pl k) j) + 1 = nI (cnt (tO pl k) (j + 1)) := by
  have q : tO pl k j = true := decide_eq_true h
  rw [cnt, if_pos q, nI_1]
theorem nine {c : Nat} (h : c ≤ 9) : ¬ 9 < nI c := fun q => by have := (nI_ltI (a := 9) (by omega) (by omega)).mp q; omega
/-! the weakest letter -/
theorem fWeak_nI (ti sh : Fn) {a b : Nat} (ha : a < 26) (hb : b < 26) : fWeak ti sh (nI a) (nI b) = if sh a = sh b then (if ti a ≤ ti b then 0 else 1) else (if sh a ≤ sh b then 0 else 1) := by
  rw [fWeak, cAt_nI sh ha (by omega), cAt_nI sh hb (by omega), cAt_nI ti ha (by omega), cAt_nI ti hb (by omega)]
def wkr (ti sh : Fn) (k w : Nat) : Prop := sh k < sh w ∨ sh k = sh w ∧ (ti k < ti w ∨ ti k = ti w ∧ w ≤ k)
theorem eqI {a b : Int32} : a = b ↔ a.toInt = b.toInt := Int32.toInt_inj.symm
theorem weak_at {ia ti sh : Fn} (hio : inOk ia) : ∀ j, j ≤ 25 → ∃ w, w ≤ j ∧ lWk ia ti sh j = nI w ∧ ¬ ia w = 0 ∧ ∀ k, k ≤ j → ¬ ia k = 0 → wkr ti sh k w := by
  intro j
  induction j with
  | zero =>
    intro _
    refine ⟨0, Nat.le_refl _, rfl, hio 0 (by omega), fun k hk _ => ?_⟩
    have : k = 0 := by omega
    subst this
    exact Or.inr ⟨rfl, Or.inr ⟨rfl, Nat.le_refl _⟩⟩
  | succ j ih =>
    intro hj
    obtain ⟨w, h1, h2, h3, h4⟩ := ih (by omega)
    by_cases hin : ia (j + 1) = 0
    · refine ⟨w, by omega, ?_, h3, fun k hk hk2 => ?_⟩
      · rw [lWk, if_pos (by rw [lIn_nI _ (by omega), if_pos hin]), h2]
      · have : k ≤ j := by
          rcases Nat.lt_or_ge j k with q | q
          · have : k = j + 1 := by omega
            subst this; exact absurd hin hk2
          · exact q
        exact h4 k this hk2
    · have hl : ¬ lIn ia (nI (j + 1)) = 0 := by rw [lIn_nI _ (by omega), if_neg hin]; decide
      rw [lWk, if_neg hl, h2, fWeak_nI ti sh (by omega) (by omega)]
      by_cases hs : sh (j + 1) = sh w
      · rw [if_pos hs]
        by_cases ht : ti (j + 1) ≤ ti w
        · rw [if_pos ht, if_pos rfl]
          refine ⟨w, by omega, rfl, h3, fun k hk hk2 => ?_⟩
          rcases Nat.lt_or_ge j k with q | q
          · have : k = j + 1 := by omega
            subst this
            refine Or.inr ⟨hs, ?_⟩
            rw [Int32.le_iff_toInt_le] at ht
            rw [Int32.lt_iff_toInt_lt, eqI]
            omega
          · exact h4 k q hk2
        · rw [if_neg ht, if_neg (by decide)]
          refine ⟨j + 1, Nat.le_refl _, rfl, hin, fun k hk hk2 => ?_⟩
          rcases Nat.lt_or_ge j k with q | q
          · have : k = j + 1 := by omega
            subst this
            exact Or.inr ⟨rfl, Or.inr ⟨rfl, Nat.le_refl _⟩⟩
          · have := h4 k q hk2
            rw [wkr, Int32.lt_iff_toInt_lt, Int32.lt_iff_toInt_lt, eqI, eqI] at this ⊢
            rw [Int32.le_iff_toInt_le] at ht
            rw [eqI] at hs
            omega
      · rw [if_neg hs]
        by_cases ht : sh (j + 1) ≤ sh w
        · rw [if_pos ht, if_pos rfl]
          refine ⟨w, by omega, rfl, h3, fun k hk hk2 => ?_⟩
          rcases Nat.lt_or_ge j k with q | q
          · have : k = j + 1 := by omega
            subst this
            refine Or.inl ?_
            rw [Int32.le_iff_toInt_le] at ht
            rw [eqI] at hs
            rw [Int32.lt_iff_toInt_lt]
            omega
          · exact h4 k q hk2
        · rw [if_neg ht, if_neg (by decide)]
          refine ⟨j + 1, Nat.le_refl _, rfl, hin, fun k hk hk2 => ?_⟩
          rcases Nat.lt_or_ge j k with q | q
          · have : k = j + 1 := by omega
            subst this
            exact Or.inr ⟨rfl, Or.inr ⟨rfl, Nat.le_refl _⟩⟩
          · have := h4 k q hk2
            rw [wkr, Int32.lt_iff_toInt_lt, Int32.lt_iff_toInt_lt, eqI, eqI] at this ⊢
            rw [Int32.le_iff_toInt_le] at ht
            omega
/-- the weakest letter, as the check asks for it -/
theorem weak_ck {ia ti sh : Fn} (hio : inOk ia) : ∃ w, w < 26 ∧ nI w = lWk ia ti sh 25 ∧ ¬ lIn ia (nI w) = 0 ∧ ∀ k, k < 26 → ¬ lIn ia (nI k) = 0 → cAt 26 sh (nI k) < cAt 26 sh (nI w) ∨ cAt 26 sh (nI k) = cAt 26 sh (nI w) ∧ (cAt 26 ti (nI k) < cAt 26 ti (nI w) ∨ cAt 26 ti (nI k) = cAt 26 ti (nI w) ∧ ¬ nI k < nI w) := by
  obtain ⟨w, h1, h2, h3, h4⟩ := weak_at (ti := ti) (sh := sh) hio 25 (Nat.le_refl _)
  refine ⟨w, by omega, h2.symm, by rw [lIn_nI _ (by omega), if_neg h3]; decide, fun k hk hk2 => ?_⟩
  have hk3 : ¬ ia k = 0 := fun q => hk2 (by rw [lIn_nI _ hk, if_pos q])
  rw [cAt_nI sh hk (by omega), cAt_nI sh (by omega : w < 26) (by omega), cAt_nI ti hk (by omega), cAt_nI ti (by omega : w < 26) (by omega)]
  rcases h4 k (by omega) hk3 with q | ⟨q, q2 | ⟨q2, q3⟩⟩
  · exact Or.inl q
  · exact Or.inr ⟨q, Or.inl q2⟩
  · exact Or.inr ⟨q, Or.inr ⟨q2, fun q4 => by have := (nI_ltI (by omega) (by omega)).mp q4; omega⟩⟩
theorem wk1 {A B C : Prop} (h : A ∨ B ∧ C) (n : ¬ A) : B := (h.resolve_left n).1
theorem wk2 {A B C D E : Prop} (h : A ∨ B ∧ (C ∨ D ∧ E)) (n : ¬ A) (m : ¬ C) : D := ((h.resolve_left n).2.resolve_left m).1
theorem wk3 {A B C D E : Prop} (h : A ∨ B ∧ (C ∨ D ∧ E)) (n : ¬ A) (m : ¬ C) : E := ((h.resolve_left n).2.resolve_left m).2
theorem FIG_ck {N : Nat} {ct ti sh : Fn} (h : FIG N ct ti sh) (hN : N < 1000) {k : Nat} (hk : k < 26) : ¬ cAt 26 sh (nI k) < 0 ∧ ¬ 10000 ≤ cAt 26 sh (nI k) ∧ ¬ cAt 26 ti (nI k) ≤ 0 ∧ ¬ 5000 < cAt 26 ti (nI k) ∧ ¬ cAt 26 ct (nI k) < 0 := by
  obtain ⟨⟨n, a1, a2⟩, ⟨t, b1, b2, b3⟩, ⟨x, c1, c2⟩⟩ := h k hk
  rw [cAt_nI sh hk (by omega), cAt_nI ti hk (by omega), cAt_nI ct hk (by omega), a2, b3, c2]
  refine ⟨nI_pos (by omega), fun q => ?_, fun q => ?_, fun q => ?_, nI_pos (by omega)⟩
  · have := (nI_leI (a := 10000) (by omega) (by omega)).mp q; omega
  · have := (nI_leI (b := 0) (by omega) (by omega)).mp q; omega
  · have := (nI_ltI (a := 5000) (by omega) (by omega)).mp q; omega
/-! speeds of ended lessons -/
theorem pF_le (kp : Fn) : ∀ m, pFall kp m ≤ m
  | 0 => Nat.le_refl _
  | m + 1 => by
    have := pF_le kp m
    rw [pFall]; split <;> omega
theorem pF_lt (kp : Fn) : ∀ m j, j < pFall kp m → cAt 100 kp (nI (m - j)) < cAt 100 kp (nI (m - 1 - j))
  | 0, j, h => by rw [pFall] at h; omega
  | m + 1, j, h => by
    rw [pFall] at h
    split at h
    · rename_i hc
      cases j with
      | zero => exact hc
      | succ j =>
        have := pF_lt kp m j (by omega)
        rw [show m + 1 - (j + 1) = m - j by omega, show m + 1 - 1 - (j + 1) = m - 1 - j by omega]
        exact this
    · omega
theorem pF_end (kp : Fn) : ∀ m, pFall kp m < m → ¬ cAt 100 kp (nI (m - pFall kp m)) < cAt 100 kp (nI (m - 1 - pFall kp m))
  | 0, h => by omega
  | m + 1, h => by
    rw [pFall] at h ⊢
    split
    · rename_i hc
      rw [if_pos hc] at h
      rw [show m + 1 - (pFall kp m + 1) = m - pFall kp m by omega, show m + 1 - 1 - (pFall kp m + 1) = m - 1 - pFall kp m by omega]
      exact pF_end kp m (by omega)
    · rename_i hc
      exact hc
section SPD
variable {sn : Int32} {sk k : Nat}
theorem sn_1 (hsn : sn = nI sk) (h : 1 + k ≤ sk) : sn - 1 - nI k = nI (sk - 1 - k) := by
  rw [hsn, show (1 : Int32) = nI 1 from rfl, pk_sub (by omega), pk_sub (by omega)]
theorem sn_2 (hsn : sn = nI sk) (h : 2 + k ≤ sk) : sn - 2 - nI k = nI (sk - 2 - k) := by
  rw [hsn, show (2 : Int32) = nI 2 from rfl, pk_sub (by omega), pk_sub (by omega)]
theorem sp_1 (hsn : sn = nI sk) (hsk : sk ≤ 100) (h : 1 + k ≤ sk) : ¬ bW (sn - 1 - nI k) 0 (sn - 1) = 0 := by
  rw [sn_1 hsn h, hsn]; exact bW_m1 (by omega) hsk
theorem sp_2 (hsn : sn = nI sk) (hsk : sk ≤ 100) (h : 2 + k ≤ sk) : ¬ bW (sn - 2 - nI k) 0 (sn - 1) = 0 := by
  rw [sn_2 hsn h, hsn]; exact bW_m1 (by omega) hsk
theorem sp_lt {kp : Fn} (hsn : sn = nI sk) (hsk : sk ≤ 100) (h : k < pFall kp (sk - 1)) : ¬ cAt 100 kp (sn - 2 - nI k) ≤ cAt 100 kp (sn - 1 - nI k) := by
  have h1 := pF_le kp (sk - 1)
  have h2 := pF_lt kp (sk - 1) k h
  rw [sn_1 hsn (by omega), sn_2 hsn (by omega)]
  rw [show sk - 1 - 1 - k = sk - 2 - k by omega, Int32.lt_iff_toInt_lt] at h2
  rw [Int32.le_iff_toInt_le]; omega
theorem sp_end {kp : Fn} (hsn : sn = nI sk) (hsk : sk ≤ 100) (h : ¬ sn < nI (pFall kp (sk - 1)) + 2) : 2 + pFall kp (sk - 1) ≤ sk ∧ ¬ cAt 100 kp (sn - 1 - nI (pFall kp (sk - 1))) < cAt 100 kp (sn - 2 - nI (pFall kp (sk - 1))) := by
  have h1 := pF_le kp (sk - 1)
  have h3 : 2 + pFall kp (sk - 1) ≤ sk := by
    refine Decidable.byContradiction fun q => h ?_
    rw [hsn, show (2 : Int32) = nI 2 from rfl, nI_add]
    exact (nI_ltI (by omega) (by omega)).mpr (by omega)
  refine ⟨h3, ?_⟩
  rw [sn_1 hsn (by omega), sn_2 hsn h3]
  have := pF_end kp (sk - 1) (by omega)
  rw [show sk - 1 - 1 - pFall kp (sk - 1) = sk - 2 - pFall kp (sk - 1) by omega] at this
  exact this
theorem fl_lt {kp : Fn} (hsn : sn = nI sk) (hsk : sk ≤ 100) (h : ¬ sn = 0) : ¬ sn ≤ nI (pFall kp (sk - 1)) := by
  have h1 := pF_le kp (sk - 1)
  have h2 : ¬ sk = 0 := fun q => h (by rw [hsn, q]; rfl)
  rw [hsn]
  exact fun q => by have := (nI_leI (by omega) (by omega)).mp q; omega
theorem sn_no (hsn : sn = nI sk) (hsk : sk ≤ 100) : bW sn 0 (sn - 1) = 0 := by rw [hsn]; exact bW_no hsk
end SPD
theorem tR_le (lt ty : Fn) : ∀ ps, ∃ n, n ≤ ps ∧ tRight lt ty ps = nI n
  | 0 => ⟨0, Nat.le_refl _, rfl⟩
  | ps + 1 => by
    obtain ⟨n, h1, h2⟩ := tR_le lt ty ps
    rw [tRight]
    split
    · exact ⟨n + 1, by omega, by rw [h2]; exact nI_1 n⟩
    · exact ⟨n, by omega, h2⟩
theorem sp_pos {lt ty : Fn} {ps mn : Nat} {ml : Int32} (hp : ps ≤ 40) (hml : ml = nI mn) (hmn : mn < 2 ^ 31) : ¬ tSpeed lt ty ps ml < 0 := by
  rw [tSpeed]
  split
  · rename_i hc
    obtain ⟨n, h1, h2⟩ := tR_le lt ty ps
    have h3 : 0 < mn := by
      rw [hml] at hc
      exact (nI_ltI (a := 0) (by omega) hmn).mp hc
    rw [h2, hml, show (60000 : Int32) = nI 60000 from rfl, pk_mul, pk_div (by omega) h3 hmn]
    exact nI_pos (by have := Nat.div_le_self (n * 60000) mn; omega)
  · decide
