/-! ===== what holds of a coach between two calls, and what the calls do to it ===== -/
abbrev Fn : Type := Nat → Int32
/-- a shift to the right, as the machine does it -/
abbrev lSh (v k : Int32) : Int32 := v >>> (k &&& 31)
def lLow (v n : Int32) : Int32 := (v &&& 2147483647) - (v &&& 2147483647) / n * n
theorem lLow_nI (v : Int32) {d : Nat} (h0 : 0 < d) (hd : d < 2 ^ 31) : ∃ j, j < d ∧ lLow v (nI d) = nI j := by
  obtain ⟨j, hj, hj2⟩ := pk_andE v (m := 2147483647) 31 rfl
  exact ⟨j % d, Nat.mod_lt _ h0, by rw [lLow, hj2, pk_rem hj h0 hd]⟩
theorem nI_nk {k : Nat} (h : k < 2 ^ 31) : ¬ nI k = -99999 := fun e => by
  have h1 := nI_toInt h
  rw [e] at h1
  have e1 : (-99999 : Int32).toInt = -99999 := rfl
  omega
theorem bW_ok {a b : Nat} (h : a ≤ b) (hb : b < 2 ^ 31) : ¬ bW (nI a) 0 (nI b) = 0 := by
  have h1 : ¬ nI a < 0 := nI_pos (by omega)
  have h2 : ¬ nI b < nI a := fun h2 => by have := (nI_ltI hb (by omega)).mp h2; omega
  rw [bW, if_neg h1, if_neg h2]; decide
theorem bW_ok1 {a b : Nat} (h0 : 1 ≤ a) (h : a ≤ b) (hb : b < 2 ^ 31) : ¬ bW (nI a) 1 (nI b) = 0 := by
  have h1 : ¬ nI a < 1 := fun h2 => by have := (nI_ltI (a := a) (b := 1) (by omega) (by omega)).mp h2; omega
  have h2 : ¬ nI b < nI a := fun h2 => by have := (nI_ltI hb (by omega)).mp h2; omega
  rw [bW, if_neg h1, if_neg h2]; decide
theorem bW_no {z : Nat} (h : z ≤ 100) : bW (nI z) 0 (nI z - 1) = 0 := by
  rw [bW]
  by_cases h1 : nI z < 0
  · rw [if_pos h1]
  · rw [if_neg h1]
    have h2 : nI z - 1 < nI z := by
      rw [Int32.lt_iff_toInt_lt, show (1 : Int32) = nI 1 from rfl, pk_sub_toInt (by omega) (by omega), nI_toInt (by omega)]; omega
    rw [if_pos h2]
theorem bW_nm (x : Int32) : bW (-1) 0 x = 0 := by rw [bW, if_pos (by decide)]
theorem bW_m1 {a b : Nat} (h : a < b) (hb : b ≤ 100) : ¬ bW (nI a) 0 (nI b - 1) = 0 := by
  rw [show (1 : Int32) = nI 1 from rfl, pk_sub (by omega)]
  exact bW_ok (by omega) (by omega)
theorem bW_a1 {i : Int32} {n : Nat} (hn : n < 2 ^ 30) (h : ¬ bW i 1 (nI n) = 0) : ∃ k, 1 ≤ k ∧ k ≤ n ∧ i = nI k := by
  obtain ⟨k, hk, e⟩ := bW_ab hn h
  refine ⟨k, ?_, hk, e⟩
  have h1 : ¬ i < 1 := fun h1 => h (by unfold bW; rw [if_pos h1])
  refine Decidable.byContradiction fun h2 => h1 ?_
  have : k = 0 := by omega
  subst this; subst e; decide
def sumI (f : Fn) : Nat → Int32
  | 0 => 0
  | k + 1 => sumI f k + f k
theorem sum_un {f : Fn} {j : Nat} {x : Int32} : ∀ n, n ≤ j → sumI (upd f j x) n = sumI f n
  | 0, _ => rfl
  | n + 1, h => by rw [sumI, sumI, sum_un n (by omega), pk_un (by omega)]
theorem sum_upd {f : Fn} {j : Nat} : ∀ n, j < n → sumI (upd f j (f j + 1)) n = sumI f n + 1
  | 0, h => by omega
  | n + 1, h => by
    rw [sumI, sumI]
    by_cases e : j = n
    · subst e; rw [sum_un j (Nat.le_refl _), pk_us, Int32.add_assoc]
    · rw [sum_upd n (by omega), pk_un (fun h2 => e h2.symm), Int32.add_assoc, Int32.add_comm 1, ← Int32.add_assoc]
theorem kErr_sum {f : Fn} {n : Nat} {k i : Int32} (hi : ¬ k = -1 → vp_in i n) (hn : n < 2 ^ 31) : sumI (kErr f n k i) n = sumI f n + (if k = -1 then 0 else 1) := by
  unfold kErr
  by_cases h : k = -1
  · rw [if_pos h, if_pos h, Int32.add_zero]
  · rw [if_neg h, if_neg h]
    obtain ⟨j, hj, rfl⟩ := vp_in_of (hi h) hn
    rw [cSet_nI f _ hj hn, cAt_nI f hj hn, sum_upd n hj]
theorem esum_eq (ek : Fn) : cAt 5 ek 0 + cAt 5 ek 1 + cAt 5 ek 2 + cAt 5 ek 3 + cAt 5 ek 4 = sumI ek 5 := by
  have h0 : cAt 5 ek 0 = ek 0 := cAt_nI (j := 0) ek (by omega) (by omega)
  have h1 : cAt 5 ek 1 = ek 1 := cAt_nI (j := 1) ek (by omega) (by omega)
  have h2 : cAt 5 ek 2 = ek 2 := cAt_nI (j := 2) ek (by omega) (by omega)
  have h3 : cAt 5 ek 3 = ek 3 := cAt_nI (j := 3) ek (by omega) (by omega)
  have h4 : cAt 5 ek 4 = ek 4 := cAt_nI (j := 4) ek (by omega) (by omega)
  rw [h0, h1, h2, h3, h4, sumI, sumI, sumI, sumI, sumI, sumI, Int32.zero_add]
theorem i4 (a b c d : Int32) : a - b + (c - d) = a + c - (b + d) := by
  rw [Int32.sub_eq_add_neg a b, Int32.sub_eq_add_neg c d, Int32.sub_eq_add_neg (a + c), Int32.neg_add, Int32.sub_eq_add_neg (-b) d, Int32.add_assoc a (-b), Int32.add_assoc a c, ← Int32.add_assoc (-b) c, Int32.add_comm (-b) c, Int32.add_assoc c]
/-- the lesson's check: errors by fingers less errors by kinds, so far -/
def lS (ef ek : Fn) (k : Nat) : Int32 := sumI ef k - sumI ek (min k 5)
theorem lS_0 (ef ek : Fn) : lS ef ek 0 = 0 := by
  rw [lS, Nat.min_eq_left (by omega), sumI, sumI, Int32.sub_self]
theorem lS_lt {ef ek : Fn} {k : Nat} (h : k < 5) : lS ef ek k + (cAt 8 ef (nI k) - cAt 5 ek (nI k)) = lS ef ek (k + 1) := by
  rw [cAt_nI ef (by omega) (by omega), cAt_nI ek h (by omega), lS, lS, Nat.min_eq_left (by omega), Nat.min_eq_left (by omega), sumI, sumI, i4]
theorem lS_ge {ef ek : Fn} {k : Nat} (h : ¬ k < 5) (h8 : k < 8) : lS ef ek k + (cAt 8 ef (nI k) - 0) = lS ef ek (k + 1) := by
  rw [cAt_nI ef h8 (by omega), lS, lS, Nat.min_eq_right (by omega), Nat.min_eq_right (by omega), show sumI ef (k + 1) = sumI ef k + ef k from rfl, i4, Int32.add_zero]
theorem lS_8 {ef ek : Fn} (h : sumI ef 8 = sumI ek 5) : lS ef ek 8 = 0 := by
  rw [lS, Nat.min_eq_right (by omega), h, Int32.sub_self]
def FIG (N : Nat) (ct ti sh : Fn) : Prop := ∀ k, k < 26 → (∃ n, n ≤ N ∧ ct k = nI n) ∧ (∃ t, 1 ≤ t ∧ t ≤ 5000 ∧ ti k = nI t) ∧ (∃ x, x < 10000 ∧ sh k = nI x)
def CI (N : Nat) (pl lo ct ti sh pr ia lt ty kp ek ef : Fn) (_wt _wh zz po me ml sn dy : Int32) : Prop :=
  INV N pl lo pr ia lt lt ty ty kp kp zz po ml sn ∧ FIG N ct ti sh ∧ sumI ef 8 = sumI ek 5 ∧ (∃ n, n ≤ N ∧ me = nI n) ∧ (∃ n, n ≤ N ∧ dy = nI n)
section CIS
variable {N : Nat} {pl lo ct ti sh pr ia lt ty kp ek ef : Fn} {wt wh zz po me ml sn dy : Int32}
theorem FIG_mono (h : FIG N ct ti sh) : FIG (N + 1) ct ti sh := fun k hk => by
  obtain ⟨⟨n, h1, h2⟩, h3⟩ := h k hk
  exact ⟨⟨n, by omega, h2⟩, h3⟩
theorem ex_mono {x : Int32} (h : ∃ n, n ≤ N ∧ x = nI n) : ∃ n, n ≤ N + 1 ∧ x = nI n := by
  obtain ⟨n, h1, h2⟩ := h
  exact ⟨n, by omega, h2⟩
theorem CI_mono (h : CI N pl lo ct ti sh pr ia lt ty kp ek ef wt wh zz po me ml sn dy) : CI (N + 1) pl lo ct ti sh pr ia lt ty kp ek ef wt wh zz po me ml sn dy :=
  ⟨INV_mono h.1, FIG_mono h.2.1, h.2.2.1, ex_mono h.2.2.2.1, ex_mono h.2.2.2.2⟩
theorem CI_put (h : CI N pl lo ct ti sh pr ia lt ty kp ek ef wt wh zz po me ml sn dy) {i co ro : Int32} (h0 : ¬ bW i 0 25 = 0) (h1 : ¬ bW co 0 9 = 0) (h2 : ¬ bW ro 0 2 = 0) :
    CI (N + 1) (bMovP pl lo i (ro * 10 + co)) (bMovL pl lo i (ro * 10 + co)) ct ti sh pr ia lt ty kp ek ef wt wh zz po me ml sn dy ∧ ¬ cAt 30 lo (ro * 10 + co) = -99999 := by
  have hb := put_rel h.1.1 h0 h1 h2
  refine ⟨⟨INV_put h.1 hb.2, FIG_mono h.2.1, h.2.2.1, ex_mono h.2.2.2.1, ex_mono h.2.2.2.2⟩, ?_⟩
  obtain ⟨r, hr, e1, -⟩ := put_v h1 h2
  rw [e1, cAt_nI lo hr (by omega)]
  rcases h.1.1.2 r hr with h3 | ⟨k, hk, h3, -⟩
  · rw [h3]; decide
  · rw [h3]; exact nI_nk (by omega)
theorem CI_want (h : CI N pl lo ct ti sh pr ia lt ty kp ek ef wt wh zz po me ml sn dy) {i : Int32} (h0 : ¬ bW i 0 25 = 0) (h1 : ¬ ¬ tFull zz = 0) :
    CI (N + 1) pl lo ct ti sh pr ia (cSet 40 lt zz i) ty kp ek ef wt wh (zz + 1) po me ml sn dy ∧ ¬ zz + 1 = -99999 := by
  obtain ⟨zn, hzz, hz40, -⟩ := h.1.2.2.2.1
  have hw := INV_want h.1 (i := i) (bW_in (n := 25) rfl (by omega) h0) (fun h9 => h1 ((full_iff hzz hz40).mpr h9))
  refine ⟨⟨hw.2, FIG_mono h.2.1, h.2.2.1, ex_mono h.2.2.2.1, ex_mono h.2.2.2.2⟩, ?_⟩
  rw [hzz, nI_1]; exact nI_nk (by omega)
theorem CI_drill (h : CI N pl lo ct ti sh pr ia lt ty kp ek ef wt wh zz po me ml sn dy) (i : Int32) {zn : Nat} (hzz : zz = nI zn) (hz : zn ≤ 40) :
    CI (N + 1) pl lo ct ti sh pr ia (dT ia ti sh pr lt zn (dN i zn)) ty kp ek ef wt wh (nI (zn + dN i zn)) po me ml sn dy ∧ ¬ nI (dN i zn) = -99999 :=
  ⟨⟨INV_drill h.1 ti sh i hzz hz, FIG_mono h.2.1, h.2.2.1, ex_mono h.2.2.2.1, ex_mono h.2.2.2.2⟩, nI_nk (by have := dN_le i hz; omega)⟩
theorem CI_back (h : CI N pl lo ct ti sh pr ia lt ty kp ek ef wt wh zz po me ml sn dy) {mo : Int32} (e0 : ¬ bW mo 1 5000 = 0) (e1 : ¬ po = 0) :
    CI (N + 1) pl lo ct ti sh pr ia lt ty kp ek ef wt wh zz (po - 1) (me + 1) (ml + mo) sn dy ∧ ¬ po - 1 = -99999 := by
  refine ⟨⟨INV_back h.1 e0 e1, FIG_mono h.2.1, h.2.2.1, ?_, ex_mono h.2.2.2.2⟩, ?_⟩
  · obtain ⟨n, h1, h2⟩ := h.2.2.2.1
    exact ⟨n + 1, by omega, by rw [h2]; exact nI_1 n⟩
  · obtain ⟨zn, -, hz40, -, ps, hpo, hps, -⟩ := h.1.2.2.2.1
    have : ¬ ps = 0 := fun h9 => e1 (by rw [hpo, h9]; rfl)
    rw [hpo, show (1 : Int32) = nI 1 from rfl, pk_sub (by omega)]
    exact nI_nk (by omega)
theorem lM1_at (ia ct sh f : Fn) (x : Int32) (k : Nat) : lM1 ia ct sh f x k = x ∨ lM1 ia ct sh f x k = f k := by
  rw [lM1, lMsk]; split
  · exact Or.inl rfl
  · exact Or.inr rfl
theorem CI_end (h : CI N pl lo ct ti sh pr ia lt ty kp ek ef wt wh zz po me ml sn dy) (v : Int32) (h1 : ¬ ¬ pFull sn = 0) :
    CI (N + 1) pl lo (lM1 ia ct sh ct 0) (lM1 ia ct sh ti 400) (lM1 ia ct sh sh 0) pr (lRevI ia ct ti sh wt wh) lt ty (cSet 100 kp sn v) ek ef wt wh 0 0 0 0 (sn + 1) dy ∧ ¬ lRevV ia ct ti sh wt wh = -99999 := by
  obtain ⟨sk, hsn, hsk, -⟩ := h.1.2.2.2.2.2
  have hw := INV_end h.1 ct ti sh wt wh v (fun h9 => h1 ((pfull_iff hsn hsk).mpr h9))
  refine ⟨⟨hw.2, fun k hk => ?_, h.2.2.1, ⟨0, by omega, rfl⟩, ex_mono h.2.2.2.2⟩, ?_⟩
  · obtain ⟨⟨n, a1, a2⟩, ⟨t, b1, b2, b3⟩, ⟨x, c1, c2⟩⟩ := h.2.1 k hk
    refine ⟨?_, ?_, ?_⟩
    · rcases lM1_at ia ct sh ct 0 k with e | e
      · exact ⟨0, by omega, e⟩
      · exact ⟨n, by omega, e.trans a2⟩
    · rcases lM1_at ia ct sh ti 400 k with e | e
      · exact ⟨400, by omega, by omega, e⟩
      · exact ⟨t, b1, b2, e.trans b3⟩
    · rcases lM1_at ia ct sh sh 0 k with e | e
      · exact ⟨0, by omega, e⟩
      · exact ⟨x, c1, e.trans c2⟩
  · have hl : ∀ f : Fn, ¬ lLetV f = -99999 := fun f => by
      rcases lLet_cases f with ⟨e, -⟩ | ⟨k, hk, e, -⟩
      · rw [e]; decide
      · rw [e]; exact nI_nk (by omega)
    rw [lRevV]
    split
    · split
      · decide
      · exact hl _
    · decide
theorem CI_wish (h : CI N pl lo ct ti sh pr ia lt ty kp ek ef wt wh zz po me ml sn dy) (x y : Int32) : CI (N + 1) pl lo ct ti sh pr ia lt ty kp ek ef x y zz po me ml sn dy := CI_mono h
theorem CI_day (h : CI N pl lo ct ti sh pr ia lt ty kp ek ef wt wh zz po me ml sn dy) (hN : N < 1000) : CI (N + 1) pl lo (fHalf ct 26) ti sh pr ia lt ty kp ek ef wt wh zz po me ml sn 0 ∧ ¬ dy = -99999 := by
  refine ⟨⟨INV_mono h.1, fun k hk => ?_, h.2.2.1, ex_mono h.2.2.2.1, ⟨0, by omega, rfl⟩⟩, ?_⟩
  · obtain ⟨⟨n, a1, a2⟩, b, c⟩ := h.2.1 k hk
    exact ⟨⟨n / 2, by omega, by rw [fHalf, if_pos hk, a2, show (2 : Int32) = nI 2 from rfl, pk_div (by omega) (by omega) (by omega)]⟩, b, c⟩
  · obtain ⟨n, h1, h2⟩ := h.2.2.2.2
    rw [h2]; exact nI_nk (by omega)
theorem FIG_set (h : FIG N ct ti sh) {d : Nat} (hd : d < 26) {mo : Int32} (hm : ¬ bW mo 1 5000 = 0) (w : Int32) :
    FIG (N + 1) (cSet 26 ct (nI d) (cAt 26 ct (nI d) + 1)) (cSet 26 ti (nI d) (fAged (cAt 26 ti (nI d)) mo)) (cSet 26 sh (nI d) (fShr (cAt 26 sh (nI d)) w)) := by
  have B : 26 < 2 ^ 31 := by omega
  rw [cSet_nI _ _ hd B, cSet_nI _ _ hd B, cSet_nI _ _ hd B, cAt_nI _ hd B, cAt_nI _ hd B, cAt_nI _ hd B]
  obtain ⟨mn, m1, m2, rfl⟩ := bW_a1 (n := 5000) (by omega) hm
  intro k hk
  obtain ⟨⟨n, a1, a2⟩, ⟨t, b1, b2, b3⟩, ⟨x, c1, c2⟩⟩ := h k hk
  by_cases e : k = d
  · subst e
    rw [pk_us, pk_us, pk_us, a2, b3, c2, aged_nI t mn (by omega) m2, nI_1]
    refine ⟨⟨n + 1, by omega, rfl⟩, ⟨(3 * t + mn) / 4, by omega, by omega, rfl⟩, ?_⟩
    rw [fShr]
    by_cases hw : w = 0
    · rw [if_pos hw, show (7 : Int32) = nI 7 from rfl, show (0 : Int32) = nI 0 from rfl, show (8 : Int32) = nI 8 from rfl, pk_mul, nI_add, pk_div (by omega) (by omega) (by omega)]
      exact ⟨_, by omega, rfl⟩
    · rw [if_neg hw, show (7 : Int32) = nI 7 from rfl, show (10000 : Int32) = nI 10000 from rfl, show (8 : Int32) = nI 8 from rfl, pk_mul, nI_add, pk_div (by omega) (by omega) (by omega)]
      exact ⟨_, by omega, rfl⟩
  · rw [pk_un e, pk_un e, pk_un e]
    exact ⟨⟨n, by omega, a2⟩, ⟨t, b1, b2, b3⟩, ⟨x, c1, c2⟩⟩
theorem kKind_eq (pl lo lt ty : Fn) (zz po : Int32) {i du : Int32} (h : i = du) : kKind pl lo lt ty zz po i du = -1 := by rw [kKind, if_pos h]
theorem kKind_ne (pl lo lt ty : Fn) (zz po : Int32) {i du : Int32} (h : ¬ i = du) : vp_in (kKind pl lo lt ty zz po i du) 5 ∧ (kKind pl lo lt ty zz po i du = 2 → ¬ bTouch pl i du = 0) ∧ (kKind pl lo lt ty zz po i du = 3 → bMir pl lo du = i) := by
  unfold kKind
  rw [if_neg h]
  split
  · exact ⟨vp_in_nI (n := 0) (by omega) (by omega), fun h => absurd h (by decide), fun h => absurd h (by decide)⟩
  · split
    · exact ⟨vp_in_nI (n := 1) (by omega) (by omega), fun h => absurd h (by decide), fun h => absurd h (by decide)⟩
    · split
      · split
        · rename_i hm
          exact ⟨vp_in_nI (n := 3) (by omega) (by omega), fun h => absurd h (by decide), fun _ => hm.symm⟩
        · exact ⟨vp_in_nI (n := 4) (by omega) (by omega), fun h => absurd h (by decide), fun h => absurd h (by decide)⟩
      · rename_i hb
        exact ⟨vp_in_nI (n := 2) (by omega) (by omega), fun _ => hb, fun h => absurd h (by decide)⟩
theorem kd_nm {x : Int32} (h : vp_in x 5) : ¬ x = -1 ∧ ¬ x < 0 ∧ ¬ 5 ≤ x ∧ ¬ x < -1 ∧ ¬ x = -99999 := by
  obtain ⟨j, hj, rfl⟩ := vp_in_of h (by omega)
  refine ⟨nI_nm (by omega), nI_pos (by omega), fun h1 => by have := (nI_leI (a := 5) (by omega) (by omega)).mp h1; omega, fun h1 => ?_, nI_nk (by omega)⟩
  have h2 := Int32.lt_iff_toInt_lt.mp h1
  rw [nI_toInt (by omega)] at h2
  have e1 : (-1 : Int32).toInt = -1 := rfl
  omega
/-- a stroke on a wanted letter -/
theorem CI_stroke (h : CI N pl lo ct ti sh pr ia lt ty kp ek ef wt wh zz po me ml sn dy) {i mo : Int32} (e0 : ¬ bW i 0 25 = 0) (e1 : ¬ bW mo 1 5000 = 0) (e2 : ¬ tAt lt zz po = -1) :
    ∃ (du kd : Int32) (ct1 ti1 sh1 pr1 ty1 ek1 ef1 : Fn), (du = tAt lt zz po ∧ kd = kKind pl lo lt ty zz po i du ∧ ct1 = cSet 26 ct du (cAt 26 ct du + 1) ∧ ti1 = cSet 26 ti du (fAged (cAt 26 ti du) mo) ∧ sh1 = cSet 26 sh du (fShr (cAt 26 sh du) (if kd = -1 then 0 else 1)) ∧ pr1 = kPr pr lt zz po du mo ∧ ty1 = cSet 40 ty po i ∧ ek1 = kErr ek 5 kd kd ∧ ef1 = kErr ef 8 kd (bFin pl du)) ∧
      (vp_in du 26 ∧ (i = du → kd = -1) ∧ (¬ i = du → vp_in kd 5) ∧ (kd = 2 → ¬ bTouch pl i du = 0) ∧ (kd = 3 → bMir pl lo du = i) ∧ cAt 26 ct1 du = cAt 26 ct du + 1 ∧ cAt 26 ti1 du = (3 * cAt 26 ti du + mo) / 4 ∧ cAt 26 sh1 du = (7 * cAt 26 sh du + (if kd = -1 then 0 else 10000)) / 8 ∧ sumI ek1 5 = sumI ek 5 + (if kd = -1 then 0 else 1) ∧ ¬ po + 1 = 0 ∧ po + 1 - 1 = po ∧ ¬ bW du 0 25 = 0 ∧ ¬ kd = -99999) ∧
      CI (N + 1) pl lo ct1 ti1 sh1 pr1 ia lt ty1 kp ek1 ef1 wt wh zz (po + 1) me (ml + mo) sn (dy + 1) := by
  have hS := stroke_rel h.1 ct ti sh ek ef e0 e1 e2
  obtain ⟨zn, hzz, hz40, hlt, ps, hpo, hps, -⟩ := h.1.2.2.2.1
  have hdu : vp_in (tAt lt zz po) 26 := by rw [← hS.1.1]; exact hS.1.2.1
  obtain ⟨d, hd, hd2⟩ := vp_in_of hdu (by omega)
  have B : 26 < 2 ^ 31 := by omega
  refine ⟨tAt lt zz po, kKind pl lo lt ty zz po i (tAt lt zz po), _, _, _, _, _, _, _, ⟨rfl, rfl, rfl, rfl, rfl, rfl, rfl, rfl, rfl⟩, ⟨hdu, fun hi => kKind_eq _ _ _ _ _ _ hi, fun hi => (kKind_ne _ _ _ _ _ _ hi).1, ?_, ?_, ?_, ?_, ?_, ?_, ?_, ?_, ?_, ?_⟩, hS.2.2.2, ?_, ?_, ex_mono h.2.2.2.1, ?_⟩
  · by_cases hi : i = tAt lt zz po
    · rw [kKind_eq _ _ _ _ _ _ hi]; exact fun h => absurd h (by decide)
    · exact (kKind_ne _ _ _ _ _ _ hi).2.1
  · by_cases hi : i = tAt lt zz po
    · rw [kKind_eq _ _ _ _ _ _ hi]; exact fun h => absurd h (by decide)
    · exact (kKind_ne _ _ _ _ _ _ hi).2.2
  · rw [hd2, cSet_nI _ _ hd B, cAt_nI _ hd B, pk_us]
  · rw [hd2, cSet_nI _ _ hd B, cAt_nI _ hd B, pk_us, fAged]
  · rw [hd2, cSet_nI _ _ hd B, cAt_nI _ hd B, pk_us, fShr]
    by_cases hk : kKind pl lo lt ty zz po i (nI d) = -1
    · rw [if_pos hk, if_pos rfl, if_pos hk]
    · rw [if_neg hk, if_neg (by decide), if_neg hk]
  · refine kErr_sum (fun hk => ?_) (by omega)
    by_cases hi : i = tAt lt zz po
    · exact absurd (kKind_eq _ _ _ _ _ _ hi) hk
    · exact (kKind_ne _ _ _ _ _ _ hi).1
  · rw [hpo, nI_1]
    exact fun h9 => by have := (nI_eq (a := ps + 1) (b := 0) (by omega) (by omega)).mp h9; omega
  · rw [hpo, nI_1, show (1 : Int32) = nI 1 from rfl, pk_sub (by omega)]; rfl
  · rw [hd2]; exact bW_ok (b := 25) (by omega) (by omega)
  · by_cases hi : i = tAt lt zz po
    · rw [kKind_eq _ _ _ _ _ _ hi]; decide
    · exact (kd_nm (kKind_ne _ _ _ _ _ _ hi).1).2.2.2.2
  · rw [hd2]; exact FIG_set h.2.1 hd e1 _
  · have hf : vp_in (bFin pl (tAt lt zz po)) 8 := by
      have := finger_rel h.1.1 hdu
      rw [this.1]; exact this.2
    rw [kErr_sum (fun _ => hf) (by omega), kErr_sum (fun hk => ?_) (by omega), h.2.2.1]
    by_cases hi : i = tAt lt zz po
    · exact absurd (kKind_eq _ _ _ _ _ _ hi) hk
    · exact (kKind_ne _ _ _ _ _ _ hi).1
  · obtain ⟨n, h1, h2⟩ := h.2.2.2.2
    exact ⟨n + 1, by omega, by rw [h2]; exact nI_1 n⟩
end CIS
