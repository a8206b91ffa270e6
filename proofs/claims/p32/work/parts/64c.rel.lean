/-! ===== what holds behind stroke, back, end ===== -/
theorem bW_ab {i : Int32} {n : Nat} (hn : n < 2 ^ 30) (h : ¬ bW i 1 (nI n) = 0) : ∃ k, k ≤ n ∧ i = nI k := by
  have h1 : ¬ i < 1 := fun h1 => h (by unfold bW; rw [if_pos h1])
  have h2 : ¬ nI n < i := fun h2 => h (by unfold bW; split <;> first | rfl | (rw [if_pos h2]))
  have h0 : ¬ i < 0 := fun h0 => h1 (Int32.lt_iff_toInt_lt.mpr (by
    have := Int32.lt_iff_toInt_lt.mp h0
    have e0 : (0 : Int32).toInt = 0 := rfl
    have e1 : (1 : Int32).toInt = 1 := rfl
    omega))
  obtain ⟨k, hk, rfl⟩ := nI_of h0
  have h3 : ¬ n < k := fun h3 => h2 ((nI_ltI (by omega) hk).mpr h3)
  exact ⟨k, by omega, rfl⟩
theorem aged_nI (a b : Nat) (ha : a ≤ 5000) (hb : b ≤ 5000) : fAged (nI a) (nI b) = nI ((3 * a + b) / 4) := by
  rw [fAged, show (3 : Int32) = nI 3 from rfl, show (4 : Int32) = nI 4 from rfl, pk_mul, nI_add, pk_div (by omega) (by omega) (by omega)]
theorem PRK_set {pr : Nat → Int32} (h : PRK pr) {a b mo : Int32} (ha : vp_in a 26) (hb : vp_in b 26) (hm : ¬ bW mo 1 5000 = 0) : PRK (cSet 676 pr (fPair a b) (fAged (cAt 676 pr (fPair a b)) mo)) := by
  have B : 676 < 2 ^ 31 := Nat.le_of_ble_eq_true rfl
  obtain ⟨n, hn, rfl⟩ := bW_ab (n := 5000) (by omega) hm
  obtain ⟨k, hk, e⟩ := vp_in_of (fPair_in ha hb) B
  rw [fPair_c] at e
  obtain ⟨q, hq, e2⟩ := h k hk
  rw [e, cSet_nI _ _ hk B, cAt_nI _ hk B, e2, aged_nI q n hq hn]
  intro j hj
  by_cases c : j = k
  · subst c; rw [pk_us]; exact ⟨_, by omega, rfl⟩
  · rw [pk_un c]; exact h j hj
theorem stroke_rel {N : Nat} {pl lo pr ia lt ltM ty tyM kp kpM : Nat → Int32} {zz po ml sn : Int32} (h : INV N pl lo pr ia lt ltM ty tyM kp kpM zz po ml sn) (ct ti sh ek ef : Nat → Int32) {i mo : Int32} (e0 : ¬ bW i 0 25 = 0) (e1 : ¬ bW mo 1 5000 = 0) (e2 : ¬ tAt lt zz po = -1) :
    (cAt 40 ltM po = tAt lt zz po ∧ vp_in (cAt 40 ltM po) 26 ∧ (¬ po ≤ 0 → vp_in (cAt 40 ltM (po - 1)) 26) ∧ vp_in (mFin (bCol pl (cAt 40 ltM po))) 8 ∧ ∃ ps zn, po = nI ps ∧ zz = nI zn ∧ zn ≤ 40 ∧ ps < zn) ∧
    kKind pl lo lt ty zz po i (tAt lt zz po) = mKind pl ltM tyM zz po i ∧
    (cSet 26 ct (cAt 40 ltM po) (cAt 26 ct (cAt 40 ltM po) + 1) = cSet 26 ct (tAt lt zz po) (cAt 26 ct (tAt lt zz po) + 1) ∧
    cSet 26 ti (cAt 40 ltM po) ((3 * cAt 26 ti (cAt 40 ltM po) + mo) / 4) = cSet 26 ti (tAt lt zz po) (fAged (cAt 26 ti (tAt lt zz po)) mo) ∧
    cSet 26 sh (cAt 40 ltM po) (mShr (cAt 26 sh (cAt 40 ltM po)) i (cAt 40 ltM po)) = cSet 26 sh (tAt lt zz po) (fShr (cAt 26 sh (tAt lt zz po)) (if kKind pl lo lt ty zz po i (tAt lt zz po) = -1 then 0 else 1)) ∧
    mPr pr ltM po (cAt 40 ltM po) mo = kPr pr lt zz po (tAt lt zz po) mo ∧
    mAdd ek 5 i (cAt 40 ltM po) (mErr pl ltM tyM zz po i) = kErr ek 5 (kKind pl lo lt ty zz po i (tAt lt zz po)) (kKind pl lo lt ty zz po i (tAt lt zz po)) ∧
    mAdd ef 8 i (cAt 40 ltM po) (mFin (bCol pl (cAt 40 ltM po))) = kErr ef 8 (kKind pl lo lt ty zz po i (tAt lt zz po)) (bFin pl (tAt lt zz po))) ∧
    INV (N + 1) pl lo (kPr pr lt zz po (tAt lt zz po) mo) ia lt ltM (cSet 40 ty po i) (cSet 40 tyM po i) kp kpM zz (po + 1) (ml + mo) sn := by
  obtain ⟨a, b, c, ⟨zn, hzz, h40, hlt, ps, hpo, hps, hty⟩, ⟨mn, hml, hmn⟩, g⟩ := h
  have hp : ps < zn := by
    rcases Nat.lt_or_ge ps zn with q | q
    · exact q
    · exact absurd ((end_iff hzz h40 hlt hpo hps).mpr (by rw [hpo, hzz]; congr 1; omega)) e2
  have hi : vp_in i 26 := bW_in (n := 25) rfl (by omega) e0
  have hd : cAt 40 ltM po = tAt lt zz po := by rw [hpo, hzz, tAt_lt h40 hp]; exact (kp40 h40 hlt hp).1
  have hdv : vp_in (tAt lt zz po) 26 := by rw [hpo, hzz, tAt_lt h40 hp]; exact (hlt ps hp).2
  have hK := kind_rel a hi hzz h40 hlt hpo hp hty
  have hf := finger_rel a hdv
  have hne : ¬ mErr pl ltM tyM zz po i = -1 := vpn (mErr_in _ _ _ _ _ _) (by omega)
  have hM : mKind pl ltM tyM zz po i = if i = tAt lt zz po then -1 else mErr pl ltM tyM zz po i := by rw [mKind, hd]
  have hPr : mPr pr ltM po (tAt lt zz po) mo = kPr pr lt zz po (tAt lt zz po) mo := (kPr_rel hzz h40 hlt hpo hp).symm
  have hdp : ¬ po ≤ 0 → vp_in (cAt 40 ltM (po - 1)) 26 ∧ tAt lt zz (po - 1) = cAt 40 ltM (po - 1) := fun q => by
    obtain ⟨-, k, rfl, e⟩ := pm1 hpo (by omega) q
    have := kp40 h40 hlt (k := k) (by omega)
    rw [e, this.1, hzz, tAt_lt h40 (by omega)]
    exact ⟨this.2.2, rfl⟩
  refine ⟨⟨hd, by rw [hd]; exact hdv, fun q => (hdp q).1, by rw [hd]; exact hf.2, ps, zn, hpo, hzz, h40, hp⟩, hK, ⟨by rw [hd], by rw [hd]; rfl, ?_, by rw [hd]; exact hPr, ?_, ?_⟩, a, ?_, c, ⟨zn, hzz, h40, hlt, ps + 1, by rw [hpo]; exact nI_1 ps, hp, fun k hk => ?_⟩, ?_, g⟩
  · rw [hd, hK, hM, kShr_rel hne]
  · rw [hd, hK, hM, kErr2_rel hne]
  · rw [hd, hK, hM, kErr_rel hne, hf.1]
  · rw [kPr]
    by_cases q : po = 0
    · rw [if_pos q]; exact b
    · rw [if_neg q]
      have q2 : ¬ po ≤ 0 := fun q2 => q (by
        rw [hpo] at q2 ⊢
        have := (nI_leI (b := 0) (by omega) (by omega)).mp q2
        rw [show ps = 0 by omega]; rfl)
      have := hdp q2
      refine PRK_set b ?_ hdv e1
      rw [this.2]; exact this.1
  · have B : 40 < 2 ^ 31 := Nat.le_of_ble_eq_true rfl
    rw [hpo, cSet_nI _ _ (by omega) B, cSet_nI _ _ (by omega) B]
    by_cases q : k = ps
    · subst q; rw [pk_us, pk_us]
    · rw [pk_un q, pk_un q]; exact hty k (by omega)
  · obtain ⟨n, hn, rfl⟩ := bW_ab (n := 5000) (by omega) e1
    exact ⟨mn + n, by rw [hml, nI_add], by omega⟩
theorem INV_back {N : Nat} {pl lo pr ia lt ltM ty tyM kp kpM : Nat → Int32} {zz po ml sn : Int32} (h : INV N pl lo pr ia lt ltM ty tyM kp kpM zz po ml sn) {mo : Int32} (e0 : ¬ bW mo 1 5000 = 0) (e1 : ¬ po = 0) : INV (N + 1) pl lo pr ia lt ltM ty tyM kp kpM zz (po - 1) (ml + mo) sn := by
  obtain ⟨a, b, c, ⟨zn, hzz, h40, hlt, ps, hpo, hps, hty⟩, ⟨mn, hml, hmn⟩, g⟩ := h
  obtain ⟨n, hn, rfl⟩ := bW_ab (n := 5000) (by omega) e0
  refine ⟨a, b, c, ⟨zn, hzz, h40, hlt, ps - 1, ?_, by omega, fun k hk => hty k (by omega)⟩, ⟨mn + n, by rw [hml, nI_add], by omega⟩, g⟩
  subst hpo
  cases ps with
  | zero => exact absurd rfl e1
  | succ k => exact nI_m1 k
theorem tR_rel {lt ltM ty tyM : Nat → Int32} : ∀ ps, ps ≤ 40 → (∀ k, k < ps → ltM k = lt k) → (∀ k, k < ps → tyM k = ty k) → tRight ltM tyM ps = tRight lt ty ps
  | 0, _, _, _ => rfl
  | n + 1, h, h1, h2 => by
    have B : 40 < 2 ^ 31 := Nat.le_of_ble_eq_true rfl
    rw [tRight, tRight, cAt_nI _ (by omega) B, cAt_nI _ (by omega) B, cAt_nI _ (by omega) B, cAt_nI _ (by omega) B, h1 n (by omega), h2 n (by omega), tR_rel n (by omega) (fun k hk => h1 k (by omega)) (fun k hk => h2 k (by omega))]
theorem speed_rel {N : Nat} {pl lo pr ia lt ltM ty tyM kp kpM : Nat → Int32} {zz po ml sn : Int32} (h : INV N pl lo pr ia lt ltM ty tyM kp kpM zz po ml sn) (hN : N ≤ 512) {ps : Nat} (hpo : po = nI ps) (hp : ps ≤ 40) : mSpeed ltM tyM ps ml = tSpeed lt ty ps ml := by
  obtain ⟨a, b, c, ⟨zn, hzz, h40, hlt, ps2, hpo2, hps, hty⟩, ⟨mn, rfl, hmn⟩, g⟩ := h
  have : ps2 = ps := nI_inj (by omega) (by omega) (hpo2.symm.trans hpo)
  subst this
  have hm : mn < 2 ^ 31 := by omega
  rw [mSpeed, tSpeed, tR_rel ps2 hp (fun k hk => (hlt k (by omega)).1) hty]
  by_cases q : nI mn = 0
  · rw [if_pos q, q, if_neg (by decide)]
  · have q2 : (0 : Int32) < nI mn := (nI_ltI (a := 0) (by omega) hm).mpr (by
      have : ¬ mn = 0 := fun e => q (by rw [e]; rfl)
      omega)
    rw [if_neg q, if_pos q2]
theorem pfull_iff {sn : Int32} {sk : Nat} (h : sn = nI sk) (hz : sk ≤ 100) : (¬ pFull sn = 0) ↔ sn = 100 := by
  subst h
  have e : nI sk = 100 ↔ sk = 100 := nI_eq (b := 100) (by omega) (by omega)
  rw [e]
  by_cases c : nI sk < 100
  · rw [pFull, if_pos c]
    have := (nI_ltI (b := 100) (by omega) (by omega)).mp c
    exact ⟨fun h => absurd rfl h, fun h => by omega⟩
  · rw [pFull, if_neg c]
    have : ¬ sk < 100 := fun h => c ((nI_ltI (b := 100) (by omega) (by omega)).mpr h)
    exact ⟨fun _ => by omega, fun _ => by decide⟩
theorem lM1_low (ia ct sh f : Nat → Int32) (x : Int32) {k : Nat} (h : k < 4) : lM1 ia ct sh f x k = f k := by
  have : ¬ ((4 ≤ k ∧ k < 26) ∧ lGo ia ct sh k = true) := fun h2 => by omega
  rw [lM1, lMsk, if_neg this]
theorem lLet_low {ia : Nat → Int32} {k : Nat} (h : ¬ ia k = 0) : ¬ lLetI ia k = 0 := by
  rcases lLet_cases ia with ⟨-, e⟩ | ⟨j, hj, -, e⟩
  · rw [e]; exact h
  · rw [e]
    by_cases q : k = j
    · subst q; rw [pk_us]; decide
    · rw [pk_un q]; exact h
theorem INV_end {N : Nat} {pl lo pr ia lt ltM ty tyM kp kpM : Nat → Int32} {zz po ml sn : Int32} (h : INV N pl lo pr ia lt ltM ty tyM kp kpM zz po ml sn) (ct ti sh : Nat → Int32) (wt wh v : Int32) (hs : ¬ sn = 100) :
    vp_in sn 100 ∧ INV (N + 1) pl lo pr (lRevI ia ct ti sh wt wh) lt ltM ty tyM (cSet 100 kp sn v) (cSet 100 kpM sn v) 0 0 0 (sn + 1) := by
  obtain ⟨a, b, c, ⟨zn, hzz, h40, hlt, ps, hpo, hps, hty⟩, ⟨mn, hml, hmn⟩, ⟨sk, rfl, hsk, hkp⟩⟩ := h
  have h1 : sk < 100 := by
    have : ¬ sk = 100 := fun e => hs (by rw [e]; rfl)
    omega
  have B : 100 < 2 ^ 31 := Nat.le_of_ble_eq_true rfl
  refine ⟨vp_in_nI h1 B, a, b, fun k hk => ?_, ⟨0, rfl, by omega, fun k hk => by omega, 0, rfl, by omega, fun k hk => by omega⟩, ⟨0, rfl, by omega⟩, ⟨sk + 1, nI_1 sk, h1, fun k hk => ?_⟩⟩
  · have hl : ¬ lM1 ia ct sh ia 0 k = 0 := by rw [lM1_low _ _ _ _ _ hk]; exact c k hk
    rw [lRevI]
    split
    · split
      · exact hl
      · exact lLet_low hl
    · exact hl
  · rw [cSet_nI _ _ h1 B, cSet_nI _ _ h1 B]
    by_cases q : k = sk
    · subst q; rw [pk_us, pk_us]
    · rw [pk_un q, pk_un q]; exact hkp k (by omega)
theorem pF_rel {kp kpM : Nat → Int32} {sk : Nat} (hs : sk ≤ 100) (h : ∀ k, k < sk → kpM k = kp k) : ∀ j, j < sk → pFall kpM j = pFall kp j
  | 0, _ => rfl
  | j + 1, hj => by
    have B : 100 < 2 ^ 31 := Nat.le_of_ble_eq_true rfl
    rw [pFall, pFall, cAt_nI _ (by omega) B, cAt_nI _ (by omega) B, cAt_nI _ (by omega) B, cAt_nI _ (by omega) B, h j (by omega), h (j + 1) hj, pF_rel hs h j (by omega)]
theorem falls_rel {kp kpM : Nat → Int32} {sk : Nat} (hs : sk ≤ 100) (h : ∀ k, k < sk → kpM k = kp k) : pFall kpM (sk - 1) = pFall kp (sk - 1) := by
  cases sk with
  | zero => rfl
  | succ n => exact pF_rel hs h n (by omega)
