/-! ===== the calls' relations ===== -/
theorem bW_ex {i : Int32} (n : Nat) (hn : n < 2 ^ 30) (h : ¬ bW i 0 (nI n) = 0) : ∃ k, k ≤ n ∧ i = nI k := by
  obtain ⟨k, hk, e⟩ := vp_in_of (bW_in rfl hn h) (by omega)
  exact ⟨k, by omega, e⟩
theorem put_v {co ro : Int32} (h1 : ¬ bW co 0 9 = 0) (h2 : ¬ bW ro 0 2 = 0) : ∃ r, r < 30 ∧ ro * 10 + co = nI r ∧ 10 * ro + co = nI r := by
  obtain ⟨k, hk, rfl⟩ := bW_ex 9 (by omega) h1
  obtain ⟨r, hr, rfl⟩ := bW_ex 2 (by omega) h2
  refine ⟨r * 10 + k, by omega, ?_, ?_⟩
  · rw [show (10 : Int32) = nI 10 from rfl, pk_mul, nI_add]
  · rw [show (10 : Int32) = nI 10 from rfl, pk_mul, nI_add, Nat.mul_comm]
theorem BOK_mov {pl lo : Nat → Int32} (h : BOK pl lo) {k r : Nat} (hk : k < 26) (hr : r < 30) : BOK (bMovP pl lo (nI k) (nI r)) (bMovL pl lo (nI k) (nI r)) := by
  obtain ⟨r0, h0, e0, f0⟩ := h.1 k hk
  have B26 : 26 < 2 ^ 31 := Nat.le_of_ble_eq_true rfl
  have B30 : 30 < 2 ^ 31 := Nat.le_of_ble_eq_true rfl
  have eP : bMovP pl lo (nI k) (nI r) = upd (if lo r = -1 then pl else cSet 26 pl (lo r) (nI r0)) k (nI r) := by
    rw [bMovP, cAt_nI lo hr B30, cAt_nI pl hk B26, e0, cSet_nI _ _ hk B26]
  have eL : bMovL pl lo (nI k) (nI r) = upd (upd lo r0 (lo r)) r (nI k) := by
    rw [bMovL, cAt_nI pl hk B26, e0, cAt_nI lo hr B30, cSet_nI _ _ h0 B30, cSet_nI _ _ hr B30]
  rw [eP, eL]
  rcases h.2 r hr with h1 | ⟨k2, hk2, h1, h2⟩
  · rw [if_pos h1]
    refine ⟨fun j hj => ?_, fun t ht => ?_⟩
    · by_cases e : j = k
      · subst e; exact ⟨r, hr, pk_us, pk_us⟩
      · obtain ⟨t, ht, a, b⟩ := h.1 j hj
        have n1 : t ≠ r := fun e1 => by subst e1; rw [h1] at b; exact nI_nm (by omega) b.symm
        have n2 : t ≠ r0 := fun e1 => by subst e1; rw [f0] at b; exact e (nI_inj (by omega) (by omega) b.symm)
        exact ⟨t, ht, by rw [pk_un e, a], by rw [pk_un n1, pk_un n2, b]⟩
    · by_cases e : t = r
      · subst e; exact Or.inr ⟨k, hk, pk_us, pk_us⟩
      · rw [pk_un e]
        by_cases e2 : t = r0
        · subst e2; exact Or.inl (by rw [pk_us, h1])
        · rw [pk_un e2]
          rcases h.2 t ht with a | ⟨j, hj, a, b⟩
          · exact Or.inl a
          · have n : j ≠ k := fun e3 => by subst e3; rw [e0] at b; exact e2 (nI_inj (by omega) (by omega) b.symm)
            exact Or.inr ⟨j, hj, a, by rw [pk_un n, b]⟩
  · rw [h1, if_neg (nI_nm (by omega)), cSet_nI pl _ hk2 B26]
    by_cases q : k2 = k
    · subst q
      have er : r0 = r := nI_inj (by omega) (by omega) (e0.symm.trans h2)
      subst er
      refine ⟨fun j hj => ?_, fun t ht => ?_⟩
      · by_cases e : j = k2
        · subst e; exact ⟨r0, hr, pk_us, pk_us⟩
        · obtain ⟨t, ht, a, b⟩ := h.1 j hj
          have n1 : t ≠ r0 := fun e1 => by subst e1; rw [h1] at b; exact e (nI_inj (by omega) (by omega) b.symm)
          exact ⟨t, ht, by rw [pk_un e, pk_un e, a], by rw [pk_un n1, pk_un n1, b]⟩
      · by_cases e : t = r0
        · subst e; exact Or.inr ⟨k2, hk, pk_us, pk_us⟩
        · rw [pk_un e, pk_un e]
          rcases h.2 t ht with a | ⟨j, hj, a, b⟩
          · exact Or.inl a
          · have n : j ≠ k2 := fun e3 => by subst e3; rw [e0] at b; exact e (nI_inj (by omega) (by omega) b.symm)
            exact Or.inr ⟨j, hj, a, by rw [pk_un n, pk_un n, b]⟩
    · have er : r0 ≠ r := fun e => by subst e; rw [f0] at h1; exact q (nI_inj (by omega) (by omega) h1.symm)
      refine ⟨fun j hj => ?_, fun t ht => ?_⟩
      · by_cases e : j = k
        · subst e; exact ⟨r, hr, pk_us, pk_us⟩
        · by_cases e2 : j = k2
          · subst e2; exact ⟨r0, h0, by rw [pk_un e, pk_us], by rw [pk_un er, pk_us]⟩
          · obtain ⟨t, ht, a, b⟩ := h.1 j hj
            have n1 : t ≠ r := fun e1 => by subst e1; rw [h1] at b; exact e2 (nI_inj (by omega) (by omega) b.symm)
            have n2 : t ≠ r0 := fun e1 => by subst e1; rw [f0] at b; exact e (nI_inj (by omega) (by omega) b.symm)
            exact ⟨t, ht, by rw [pk_un e, pk_un e2, a], by rw [pk_un n1, pk_un n2, b]⟩
      · by_cases e : t = r
        · subst e; exact Or.inr ⟨k, hk, pk_us, pk_us⟩
        · by_cases e2 : t = r0
          · subst e2; exact Or.inr ⟨k2, hk2, by rw [pk_un e, pk_us], by rw [pk_un q, pk_us]⟩
          · rw [pk_un e, pk_un e2]
            rcases h.2 t ht with a | ⟨j, hj, a, b⟩
            · exact Or.inl a
            · have n : j ≠ k := fun e3 => by subst e3; rw [e0] at b; exact e2 (nI_inj (by omega) (by omega) b.symm)
              have n2 : j ≠ k2 := fun e3 => by subst e3; rw [h2] at b; exact e (nI_inj (by omega) (by omega) b.symm)
              exact Or.inr ⟨j, hj, a, by rw [pk_un n, pk_un n2, b]⟩
theorem put_rel {pl lo : Nat → Int32} (h : BOK pl lo) {i co ro : Int32} (h0 : ¬ bW i 0 25 = 0) (h1 : ¬ bW co 0 9 = 0) (h2 : ¬ bW ro 0 2 = 0) :
    mLet pl (10 * ro + co) = cAt 30 lo (ro * 10 + co) ∧ BOK (bMovP pl lo i (ro * 10 + co)) (bMovL pl lo i (ro * 10 + co)) := by
  obtain ⟨k, hk, rfl⟩ := bW_ex 25 (by omega) h0
  obtain ⟨r, hr, e1, e2⟩ := put_v h1 h2
  rw [e1, e2]
  have e : mLet pl (nI r) = cAt 30 lo (nI r) := by rw [mLet_rel h hr, cAt_nI lo hr (Nat.le_of_ble_eq_true rfl)]
  exact ⟨e, BOK_mov h (by omega) hr⟩
theorem INV_mono {N : Nat} {pl lo pr ia lt ltM ty tyM kp kpM : Nat → Int32} {zz po ml sn : Int32} (h : INV N pl lo pr ia lt ltM ty tyM kp kpM zz po ml sn) : INV (N + 1) pl lo pr ia lt ltM ty tyM kp kpM zz po ml sn := by
  obtain ⟨a, b, c, d, ⟨mn, e, f⟩, g⟩ := h
  exact ⟨a, b, c, d, ⟨mn, e, by omega⟩, g⟩
theorem INV_put {N : Nat} {pl lo pr ia lt ltM ty tyM kp kpM : Nat → Int32} {zz po ml sn : Int32} (h : INV N pl lo pr ia lt ltM ty tyM kp kpM zz po ml sn) {pl1 lo1 : Nat → Int32} (hb : BOK pl1 lo1) : INV (N + 1) pl1 lo1 pr ia lt ltM ty tyM kp kpM zz po ml sn := by
  obtain ⟨a, b, c, d, ⟨mn, e, f⟩, g⟩ := h
  exact ⟨hb, b, c, d, ⟨mn, e, by omega⟩, g⟩
theorem full_iff {zz : Int32} {zn : Nat} (h : zz = nI zn) (hz : zn ≤ 40) : (¬ tFull zz = 0) ↔ zz = 40 := by
  subst h
  have e : nI zn = 40 ↔ zn = 40 := nI_eq (b := 40) (by omega) (by omega)
  rw [e]
  by_cases c : nI zn < 40
  · rw [tFull, if_pos c]
    have := (nI_ltI (b := 40) (by omega) (by omega)).mp c
    exact ⟨fun h => absurd rfl h, fun h => by omega⟩
  · rw [tFull, if_neg c]
    have : ¬ zn < 40 := fun h => c ((nI_ltI (b := 40) (by omega) (by omega)).mpr h)
    exact ⟨fun _ => by omega, fun _ => by decide⟩
theorem INV_want {N : Nat} {pl lo pr ia lt ltM ty tyM kp kpM : Nat → Int32} {zz po ml sn : Int32} (h : INV N pl lo pr ia lt ltM ty tyM kp kpM zz po ml sn) {i : Int32} (hi : vp_in i 26) (hz : ¬ zz = 40) :
    vp_in zz 40 ∧ INV (N + 1) pl lo pr ia (cSet 40 lt zz i) (cSet 40 ltM zz i) ty tyM kp kpM (zz + 1) po ml sn := by
  obtain ⟨a, b, c, ⟨zn, rfl, h40, hlt, ps, hpo, hps, hty⟩, ⟨mn, e, f⟩, g⟩ := h
  have hz2 : zn < 40 := by
    have : ¬ zn = 40 := fun e => hz (by rw [e]; rfl)
    omega
  have B : 40 < 2 ^ 31 := Nat.le_of_ble_eq_true rfl
  refine ⟨vp_in_nI hz2 B, a, b, c, ⟨zn + 1, nI_1 zn, hz2, fun k hk => ?_, ps, hpo, by omega, hty⟩, ⟨mn, e, by omega⟩, g⟩
  rw [cSet_nI _ _ hz2 B, cSet_nI _ _ hz2 B]
  by_cases q : k = zn
  · subst q; rw [pk_us, pk_us]; exact ⟨rfl, hi⟩
  · rw [pk_un q, pk_un q]; exact hlt k (by omega)
theorem dT_at {ia ti sh pr lt ltM : Nat → Int32} {zn : Nat} (hio : inOk ia) (hpr : prOk pr) (h : ∀ k, k < zn → ltM k = lt k ∧ vp_in (lt k) 26) : ∀ n, zn + n ≤ 40 → ∀ k, k < zn + n → dT ia ti sh pr ltM zn n k = dT ia ti sh pr lt zn n k ∧ vp_in (dT ia ti sh pr lt zn n k) 26
  | 0, _ => h
  | n + 1, h1 => fun k hk => by
    have B : 40 < 2 ^ 31 := Nat.le_of_ble_eq_true rfl
    rw [dT, dT, cSet_nI _ _ (by omega) B, cSet_nI _ _ (by omega) B]
    by_cases q : k = zn + n
    · subst q; rw [pk_us, pk_us]; exact ⟨rfl, dL_in hio hpr n⟩
    · rw [pk_un q, pk_un q]; exact dT_at hio hpr h n (by omega) k (by omega)
theorem dN_le (i : Int32) {zn : Nat} (h : zn ≤ 40) : zn + dN i zn ≤ 40 := by
  have : dN i zn ≤ 40 - zn := Nat.min_le_right _ _
  omega
theorem INV_drill {N : Nat} {pl lo pr ia lt ltM ty tyM kp kpM : Nat → Int32} {zz po ml sn : Int32} (h : INV N pl lo pr ia lt ltM ty tyM kp kpM zz po ml sn) (ti sh : Nat → Int32) (i : Int32) {zn : Nat} (hzz : zz = nI zn) (hz : zn ≤ 40) :
    INV (N + 1) pl lo pr ia (dT ia ti sh pr lt zn (dN i zn)) (dT ia ti sh pr ltM zn (dN i zn)) ty tyM kp kpM (nI (zn + dN i zn)) po ml sn := by
  obtain ⟨a, b, c, ⟨zn2, h1, h40, hlt, ps, hpo, hps, hty⟩, ⟨mn, e, f⟩, g⟩ := h
  have : zn2 = zn := nI_inj (by omega) (by omega) (h1.symm.trans hzz)
  subst this
  exact ⟨a, b, c, ⟨_, rfl, dN_le i hz, dT_at c (PRK_ok b) hlt _ (dN_le i hz), ps, hpo, by omega, hty⟩, ⟨mn, e, by omega⟩, g⟩
theorem at_rel {lt ltM : Nat → Int32} {zz i : Int32} {zn : Nat} (hzz : zz = nI zn) (hz : zn ≤ 40) (hlt : ∀ k, k < zn → ltM k = lt k ∧ vp_in (lt k) 26) (h : ¬ bW i 0 (zz - 1) = 0) : vp_in i 40 ∧ tAt lt zz i = cAt 40 ltM i := by
  subst hzz
  have h1 : ¬ i < 0 := fun h1 => h (by unfold bW; rw [if_pos h1])
  have h2 : ¬ nI zn - 1 < i := fun h2 => h (by unfold bW; split <;> first | rfl | (rw [if_pos h2]))
  obtain ⟨k, hk, rfl⟩ := nI_of h1
  have hkz : k < zn := by
    cases zn with
    | zero => exact absurd (Int32.lt_iff_toInt_lt.mpr (by
        have e1 : (nI 0 - 1 : Int32).toInt = -1 := rfl
        rw [e1, nI_toInt hk]; omega)) h2
    | succ n =>
      rw [nI_m1] at h2
      have : ¬ n < k := fun h3 => h2 ((nI_ltI (by omega) hk).mpr h3)
      omega
  have B : 40 < 2 ^ 31 := Nat.le_of_ble_eq_true rfl
  have h3 : ¬ nI zn ≤ nI k := fun h3 => by have := (nI_leI (by omega) hk).mp h3; omega
  exact ⟨vp_in_nI (by omega) B, by rw [tAt, if_neg h3, cAt_nI _ (by omega) B, cAt_nI _ (by omega) B, (hlt k hkz).1]⟩
theorem of_rel {kp kpM : Nat → Int32} {sn i : Int32} {sk : Nat} (hsn : sn = nI sk) (hs : sk ≤ 100) (hkp : ∀ k, k < sk → kpM k = kp k) (h : ¬ bW i 0 (sn - 1) = 0) : vp_in i 100 ∧ cAt 100 kp i = cAt 100 kpM i := by
  subst hsn
  have h1 : ¬ i < 0 := fun h1 => h (by unfold bW; rw [if_pos h1])
  have h2 : ¬ nI sk - 1 < i := fun h2 => h (by unfold bW; split <;> first | rfl | (rw [if_pos h2]))
  obtain ⟨k, hk, rfl⟩ := nI_of h1
  have hkz : k < sk := by
    cases sk with
    | zero => exact absurd (Int32.lt_iff_toInt_lt.mpr (by
        have e1 : (nI 0 - 1 : Int32).toInt = -1 := rfl
        rw [e1, nI_toInt hk]; omega)) h2
    | succ n =>
      rw [nI_m1] at h2
      have : ¬ n < k := fun h3 => h2 ((nI_ltI (by omega) hk).mpr h3)
      omega
  have B : 100 < 2 ^ 31 := Nat.le_of_ble_eq_true rfl
  exact ⟨vp_in_nI (by omega) B, by rw [cAt_nI _ (by omega) B, cAt_nI _ (by omega) B, hkp k hkz]⟩
