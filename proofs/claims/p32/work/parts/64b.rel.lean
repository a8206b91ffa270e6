/-! ===== relations of stroke, back, end, speed ===== -/
theorem kp40 {lt ltM : Nat → Int32} {zn k : Nat} (hz : zn ≤ 40) (hlt : ∀ k, k < zn → ltM k = lt k ∧ vp_in (lt k) 26) (h : k < zn) : cAt 40 ltM (nI k) = lt k ∧ cAt 40 lt (nI k) = lt k ∧ vp_in (lt k) 26 := by
  have B : 40 < 2 ^ 31 := Nat.le_of_ble_eq_true rfl
  exact ⟨by rw [cAt_nI _ (by omega) B, (hlt k h).1], by rw [cAt_nI _ (by omega) B], (hlt k h).2⟩
theorem tAt_lt {lt : Nat → Int32} {zn k : Nat} (hz : zn ≤ 40) (h : k < zn) : tAt lt (nI zn) (nI k) = lt k := by
  have h3 : ¬ nI zn ≤ nI k := fun h3 => by have := (nI_leI (by omega) (by omega)).mp h3; omega
  rw [tAt, if_neg h3, cAt_nI _ (by omega) (Nat.le_of_ble_eq_true rfl)]
theorem tAt_no {lt : Nat → Int32} {zn k : Nat} (hk : k < 2 ^ 31) (hz : zn ≤ 40) (h : zn ≤ k) : tAt lt (nI zn) (nI k) = -1 := by
  rw [tAt, if_pos ((nI_leI (by omega) hk).mpr h)]
theorem vpn {i : Int32} {n : Nat} (h : vp_in i n) (hn : n < 2 ^ 31) : ¬ i = -1 := by
  obtain ⟨k, hk, rfl⟩ := vp_in_of h hn
  exact nI_nm (by omega)
theorem end_iff {lt ltM : Nat → Int32} {zz po : Int32} {zn ps : Nat} (hzz : zz = nI zn) (hz : zn ≤ 40) (hlt : ∀ k, k < zn → ltM k = lt k ∧ vp_in (lt k) 26) (hpo : po = nI ps) (hps : ps ≤ zn) : tAt lt zz po = -1 ↔ po = zz := by
  subst hzz; subst hpo
  rw [nI_eq (by omega) (by omega)]
  rcases Nat.lt_or_ge ps zn with h | h
  · rw [tAt_lt hz h]
    exact ⟨fun e => absurd e (vpn (hlt ps h).2 (by omega)), fun e => by omega⟩
  · rw [tAt_no (by omega) hz h]
    exact ⟨fun _ => by omega, fun _ => rfl⟩
theorem mir_iff {pl lo : Nat → Int32} (h : BOK pl lo) {i du : Int32} (hi : vp_in i 26) (hd : vp_in du 26) : (i = bMir pl lo du) ↔ (cAt 26 pl i = mMir pl du) := by
  obtain ⟨r, hr, e1, e2⟩ := mir_at h hd
  obtain ⟨k, r2, hk, hr2, rfl, e3, e4, e5⟩ := BOK_at h hi
  rw [e1, e2, e3]
  constructor
  · intro e
    rcases h.2 r hr with a | ⟨j, hj, a, b⟩
    · rw [a] at e; exact absurd e (nI_nm (by omega))
    · have : j = k := nI_inj (by omega) (by omega) (a.symm.trans e.symm)
      subst this
      rw [← e5, b]
  · intro e
    have : r2 = r := nI_inj (by omega) (by omega) e
    subst this
    exact e4.symm
theorem kS_rel {pl lo : Nat → Int32} (h : BOK pl lo) {i du : Int32} (hi : vp_in i 26) (hd : vp_in du 26) : (if bTouch pl i du = 0 then (if i = bMir pl lo du then (3 : Int32) else 4) else 2) = mErS pl i du := by
  rw [mErS, touch_rel h hi hd]
  by_cases c : i = bMir pl lo du
  · rw [if_pos c, if_pos ((mir_iff h hi hd).mp c)]
  · rw [if_neg c, if_neg (fun x => c ((mir_iff h hi hd).mpr x))]
theorem kind_rel {pl lo lt ltM ty tyM : Nat → Int32} {zz po i : Int32} {zn ps : Nat} (h : BOK pl lo) (hi : vp_in i 26) (hzz : zz = nI zn) (hz : zn ≤ 40) (hlt : ∀ k, k < zn → ltM k = lt k ∧ vp_in (lt k) 26) (hpo : po = nI ps) (hps : ps < zn) (hty : ∀ k, k < ps → tyM k = ty k) :
    kKind pl lo lt ty zz po i (tAt lt zz po) = mKind pl ltM tyM zz po i := by
  have hd : cAt 40 ltM po = tAt lt zz po := by rw [hpo, hzz, tAt_lt hz hps]; exact (kp40 hz hlt hps).1
  have hdv : vp_in (tAt lt zz po) 26 := by rw [hpo, hzz, tAt_lt hz hps]; exact (hlt ps hps).2
  have hS := kS_rel h hi hdv
  have hin := vpn hi (by omega)
  rw [kKind, mKind, mErr, mErR, hd]
  by_cases c : i = tAt lt zz po
  · rw [if_pos c, if_pos c]
  · rw [if_neg c, if_neg c]
    have hR : (if i = tAt lt zz (po + 1) then (1 : Int32) else if bTouch pl i (tAt lt zz po) = 0 then (if i = bMir pl lo (tAt lt zz po) then (3 : Int32) else 4) else 2) = (if zz ≤ po + 1 then mErS pl i (tAt lt zz po) else if cAt 40 ltM (po + 1) = i then 1 else mErS pl i (tAt lt zz po)) := by
      rw [hS]
      subst hzz; subst hpo
      rw [nI_1]
      rcases Nat.lt_or_ge (ps + 1) zn with q | q
      · have h4 : ¬ nI zn ≤ nI (ps + 1) := fun h3 => by have := (nI_leI (a := zn) (b := ps + 1) (by omega) (by omega)).mp h3; omega
        rw [tAt_lt hz q, (kp40 hz hlt q).1, if_neg h4]
        by_cases e : i = lt (ps + 1)
        · rw [if_pos e, if_pos e.symm]
        · have e2 : ¬ lt (ps + 1) = i := fun x => e x.symm
          rw [if_neg e, if_neg e2]
      · rw [tAt_no (by omega) hz q, if_neg hin, if_pos ((nI_leI (by omega) (by omega)).mpr q)]
    rw [hR]
    by_cases c2 : po ≤ 0
    · rw [if_pos c2]
      have h0 : ps = 0 := by
        rw [hpo] at c2
        have := (nI_leI (b := 0) (by omega) (by omega)).mp c2
        omega
      subst h0; subst hpo
      rw [if_neg]
      intro e
      exact hin (e.trans rfl)
    · rw [if_neg c2]
      obtain ⟨-, k, rfl, e⟩ := pm1 hpo (by omega) c2
      have B : 40 < 2 ^ 31 := Nat.le_of_ble_eq_true rfl
      rw [e, cAt_nI ty (by omega) B, cAt_nI tyM (by omega) B, hty k (by omega)]
      by_cases e : i = ty k
      · rw [if_pos e, if_pos e.symm]
      · have e2 : ¬ ty k = i := fun x => e x.symm
        rw [if_neg e, if_neg e2]
theorem kErr_rel {f : Nat → Int32} {n : Nat} {i du k j : Int32} (hk : ¬ k = -1) : kErr f n (if i = du then -1 else k) j = mAdd f n i du j := by
  rw [kErr, mAdd]
  by_cases c : i = du
  · rw [if_pos c, if_pos rfl, if_pos c]
  · rw [if_neg c, if_neg hk, if_neg c]
theorem kErr2_rel {f : Nat → Int32} {n : Nat} {i du k : Int32} (hk : ¬ k = -1) : kErr f n (if i = du then -1 else k) (if i = du then -1 else k) = mAdd f n i du k := by
  by_cases c : i = du
  · rw [kErr, mAdd, if_pos c, if_pos rfl, if_pos c]
  · rw [if_neg c, kErr, mAdd, if_neg c, if_neg hk]
theorem kShr_rel {s i du k : Int32} (hk : ¬ k = -1) : fShr s (if (if i = du then -1 else k) = -1 then 0 else 1) = mShr s i du := by
  by_cases c : i = du
  · rw [if_pos c, if_pos rfl, mShr, if_pos c, fShr_0]
  · rw [if_neg c, if_neg hk, mShr, if_neg c, fShr_1]
theorem kPr_rel {pr lt ltM : Nat → Int32} {zz po du mo : Int32} {zn ps : Nat} (hzz : zz = nI zn) (hz : zn ≤ 40) (hlt : ∀ k, k < zn → ltM k = lt k ∧ vp_in (lt k) 26) (hpo : po = nI ps) (hps : ps < zn) : kPr pr lt zz po du mo = mPr pr ltM po du mo := by
  rw [kPr, mPr]
  by_cases c : po ≤ 0
  · rw [if_pos c, if_pos]
    rw [hpo] at c ⊢
    have := (nI_leI (b := 0) (by omega) (by omega)).mp c
    rw [show ps = 0 by omega]; rfl
  · rw [if_neg c]
    obtain ⟨-, k, rfl, e⟩ := pm1 hpo (by omega) c
    have h0 : ¬ po = 0 := fun e0 => c (by rw [e0]; decide)
    rw [if_neg h0, e, hzz, tAt_lt hz (by omega), (kp40 hz hlt (k := k) (by omega)).1, fPair_c]
    rfl
