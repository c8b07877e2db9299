/-! ===== the class and the reference hold the same ===== -/
def PK (wk sd bt lt lo vl bg wk2 sd2 bt2 lt2 lo2 vl2 bg2 : Int32) : Prop := wk2 = wk ∧ sd2 = sd ∧ bt2 = bt ∧ lo2 = lo ∧ (lt2 = lt ∨ lo = 0) ∧ vl2 = vl ∧ bg2 = bg ∧ (∃ q : Nat, q ≤ 8 ∧ bt = nI q) ∧ (∃ q : Nat, q ≤ 4 ∧ lo = nI q)
def RelP (i n : Nat) (wk sd bt lt lo vl bg cm : Nat → Int32) (gd : Int32) (ct : Nat) (rd : Int32) (wk2 sd2 bt2 lt2 lo2 vl2 bg2 cm2 : Nat → Int32) : Prop :=
  1 ≤ n ∧ n ≤ 40 ∧ ct ≤ 24 ∧ (∃ j : Nat, j ≤ i ∧ gd = nI j ∧ rd = if j = 0 then 0 else 1) ∧ (∀ k, k < n → PK (wk k) (sd k) (bt k) (lt k) (lo k) (vl k) (bg k) (wk2 k) (sd2 k) (bt2 k) (lt2 k) (lo2 k) (vl2 k) (bg2 k)) ∧ (¬ rd = 0 → ∀ k, k < 24 → cm2 k = cm k)
def Rel (i : Nat) (u : xS) (v : mS) : Prop := match u, v with
  | (n, wk, sd, bt, lt, lo, rk, ad, vl, bg, cm, sp, gd, rf, ct, rd, sm, js, sn, wl), (_, n2, wk2, sd2, bt2, lt2, lo2, ct2, rk2, ad2, sp2, gd2, rf2, sm2, js2, sn2, wl2, vl2, bg2, cm2) =>
    (n2 = n ∧ ct2 = ct ∧ rk2 = rk ∧ ad2 = ad ∧ sp2 = sp ∧ gd2 = gd ∧ rf2 = rf ∧ sm2 = sm ∧ js2 = js ∧ sn2 = sn ∧ wl2 = wl) ∧ RelP i n wk sd bt lt lo vl bg cm gd ct rd wk2 sd2 bt2 lt2 lo2 vl2 bg2 cm2
theorem RelP.up {i n : Nat} {wk sd bt lt lo vl bg cm : Nat → Int32} {gd : Int32} {ct : Nat} {rd : Int32} {wk2 sd2 bt2 lt2 lo2 vl2 bg2 cm2 : Nat → Int32} (h : RelP i n wk sd bt lt lo vl bg cm gd ct rd wk2 sd2 bt2 lt2 lo2 vl2 bg2 cm2) : RelP (i + 1) n wk sd bt lt lo vl bg cm gd ct rd wk2 sd2 bt2 lt2 lo2 vl2 bg2 cm2 := by
  obtain ⟨h1, h2, h3, ⟨j, hj, h4⟩, h5, h6⟩ := h
  exact ⟨h1, h2, h3, ⟨j, by omega, h4⟩, h5, h6⟩
/-- what a call must give: the code, the answer where it is 0, the relation -/
def R3 (i : Nat) (F : Int32 × Int64 × xS) (G : Int64 × mS) : Prop := G.2.1 = F.1 ∧ (F.1 = 0 → F.2.1 = G.1) ∧ Rel (i + 1) F.2.2 G.2
theorem isS_eq (n : Nat) (k : Int32) : isS n k = if k < 0 then 0 else if k < nI n then 1 else 0 := by
  unfold isS
  by_cases h1 : k < 0
  · rw [if_pos h1, if_pos h1]
  · rw [if_neg h1, if_neg h1]
    by_cases h2 : k < nI n
    · rw [if_pos h2, if_neg (Int32.not_le.mpr h2)]
    · rw [if_neg h2, if_pos (Int32.not_lt.mp h2)]
theorem inn_eq (v x y : Int32) : inn v x y = if v < x then 0 else if v ≤ y then 1 else 0 := by
  unfold inn
  by_cases h1 : v < x
  · rw [if_pos h1, if_pos h1]
  · rw [if_neg h1, if_neg h1]
    by_cases h2 : v ≤ y
    · rw [if_pos h2, if_neg (Int32.not_lt.mpr h2)]
    · rw [if_neg h2, if_pos (Int32.not_le.mp h2)]
theorem o10 : ((1 : Int32) = 0) = False := eq_false (by decide)
theorem in_lt {k : Int32} {n : Nat} (h1 : ¬ k < 0) (h2 : k < nI n) (hn : n ≤ 40) : k.toNatClampNeg < n := by
  obtain ⟨j, hj, rfl⟩ := nI_of h1
  rw [nI_clamp hj]
  exact (nI_ltI hj (by omega)).mp h2
theorem nn_rd {i j : Nat} {gd rd : Int32} (hi : i < 100000) (hj : j ≤ i) (h1 : gd = nI j) (h2 : rd = if j = 0 then 0 else 1) : (gd = 0 ↔ rd = 0) := by
  subst h1
  by_cases h : j = 0
  · subst h
    rw [if_pos rfl] at h2
    exact ⟨fun _ => h2, fun _ => nI_0⟩
  · rw [if_neg h] at h2
    exact ⟨fun q => absurd q (nI_ne0 (by omega) (by omega)), fun q => absurd (h2.symm.trans q) (by decide)⟩
theorem bt_ex {b : Int32} (h1 : ¬ b < 0) {N : Nat} {M : Int32} (hM : M.toInt = N) (h2 : b ≤ M) : ∃ q : Nat, q ≤ N ∧ b = nI q := nI_of2 hM h1 h2
theorem upd_s {f : Nat → Int32} {k : Nat} {x : Int32} : upd f k x k = x := pk_us
theorem fil_in (f g : Nat → Int32) : ∀ (n k : Nat), k < n → fil f g n k = f k
  | 0, _, h => absurd h (by omega)
  | n + 1, k, h => by
    show upd (fil f g n) n (f n) k = f k
    by_cases e : k = n
    · subst e; exact pk_us
    · rw [pk_un e]; exact fil_in f g n k (by omega)
theorem sumL_eq {f g : Nat → Int32} : ∀ (n : Nat), (∀ k, k < n → f k = g k) → sumL f n = sumL g n
  | 0, _ => rfl
  | n + 1, h => by
    show sumL f n + f n = sumL g n + g n
    rw [sumL_eq n (fun k hk => h k (by omega)), h n (by omega)]
theorem sumL_le {f : Nat → Int32} : ∀ (n : Nat), (∀ k, k < n → ∃ q : Nat, q ≤ 4 ∧ f k = nI q) → ∃ S : Nat, S ≤ 4 * n ∧ sumL f n = nI S
  | 0, _ => ⟨0, by omega, nI_0.symm⟩
  | n + 1, h => by
    obtain ⟨S, hS, e⟩ := sumL_le n (fun k hk => h k (by omega))
    obtain ⟨q, hq, e2⟩ := h n (by omega)
    refine ⟨S + q, by omega, ?_⟩
    show sumL f n + f n = nI (S + q)
    rw [e, e2, nI_add]
theorem left_iff {w : Int32} {S : Nat} (h1 : ¬ w < 1) (h6 : w ≤ 6) (hS : S ≤ 160) : (1 ≤ w - nI S) ↔ nI S < w := by
  have h0 : ¬ w < 0 := fun q => h1 (by
    have a := Int32.lt_iff_toInt_lt.mp q
    have e1 : (1 : Int32).toInt = 1 := by decide
    have e0 : (0 : Int32).toInt = 0 := by decide
    exact Int32.lt_iff_toInt_lt.mpr (by omega))
  obtain ⟨c, hc, rfl⟩ := nI_of h0
  have hc6 : c ≤ 6 := (nI_leI (a := c) (b := 6) hc (by omega)).mp h6
  have e1 : (1 : Int32).toInt = 1 := by decide
  rw [Int32.le_iff_toInt_le, pk_sub_toInt (by omega) (by omega), e1, nI_ltI (by omega) hc]
  omega
theorem vl9_nn (x : Int64) : ∃ m : Nat, m < 2 ^ 31 ∧ vl9 x = nI m := by
  obtain ⟨n, hn, rfl⟩ := wb_of x
  refine ⟨n / 2 ^ 33, by omega, ?_⟩
  have h := wb_shr (n := n) (k := 33) hn (by omega)
  unfold vl9
  have e : (33 : Int32) = nI 33 := rfl
  rw [e, h, lN_i]
theorem st_eq {q : Nat} (hq : q ≤ 8) {v : Int32} (hv : ∃ m : Nat, m < 2 ^ 31 ∧ v = nI m) : (stl (nI q) v = 0 ↔ stm (nI q) v = 0) := by
  obtain ⟨m, hm, rfl⟩ := hv
  have key : ∀ b : Nat, 1 ≤ b → b ≤ 8 → ((1 : Int32) <<< (nI b &&& 31) = nI (2 ^ b)) ∧ ((nI (2 ^ b) - 1).toBitVec.toNat = 2 ^ b - 1) := by
    intro b h1 h2
    have : b = 1 ∨ b = 2 ∨ b = 3 ∨ b = 4 ∨ b = 5 ∨ b = 6 ∨ b = 7 ∨ b = 8 := by omega
    rcases this with rfl | rfl | rfl | rfl | rfl | rfl | rfl | rfl <;> decide
  rcases Nat.eq_zero_or_pos q with rfl | h0
  · simp [stl, stm, nI_0]
  · obtain ⟨e1, e2⟩ := key q h0 hq
    have hp : 2 ^ q ≤ 2 ^ 8 := Nat.pow_le_pow_right (by omega) hq
    have a1 : nI m &&& (nI (2 ^ q) - 1) = nI (m % 2 ^ q) := pk_andN (by omega) q e2
    have a2 : nI m - nI m / nI (2 ^ q) * nI (2 ^ q) = nI (m % 2 ^ q) := pk_rem hm (Nat.pow_pos (by omega)) (by omega)
    have b1 : ¬ nI q = 0 := nI_ne0 h0 (by omega)
    have b2 : ¬ nI q ≤ 0 := nI_nle h0 (by omega)
    simp only [stl, stm, e1, a1, a2, b1, b2, ↓reduceIte]
theorem linC_eq {rk : Nat → Int32} {r : Int32} {m m2 : Nat → Int32} (h : ∀ k, k < 24 → m2 k = m k) : ∀ (c : Nat), ∀ k, k < 24 → linC rk r m2 c k = linC rk r m c k
  | 0, k, hk => h k hk
  | c + 1, k, hk => by
    have ih := linC_eq (rk := rk) (r := r) h c
    by_cases e : rk c = r
    · simp only [linC, e, ↓reduceIte]
      by_cases ek : k = c
      · subst ek; rw [pk_us, pk_us]
      · rw [pk_un ek, pk_un ek]; exact ih k hk
    · simp only [linC, e, ↓reduceIte]; exact ih k hk
theorem jnC_eq {rk : Nat → Int32} {ct : Nat} {m m2 : Nat → Int32} (h : ∀ k, k < 24 → m2 k = m k) : ∀ (c : Nat), ∀ k, k < 24 → jnC rk ct m2 c k = jnC rk ct m c k
  | 0, k, hk => h k hk
  | c + 1, k, hk => linC_eq (jnC_eq h c) ct k hk
theorem jnS_eq {rk ad vl vl2 : Nat → Int32} {ct : Nat} : ∀ (c : Nat), (∀ k, k < c → vl2 k = vl k) → jnS rk ad vl2 ct c = jnS rk ad vl ct c
  | 0, _ => rfl
  | c + 1, h => by
    show 1000003 * linS rk ad (nI c) (jnS rk ad vl2 ct c) ct + (vl2 c).toInt64 = 1000003 * linS rk ad (nI c) (jnS rk ad vl ct c) ct + (vl c).toInt64
    rw [jnS_eq c (fun k hk => h k (by omega)), h c (by omega)]
theorem jn_eq {bt bt2 rk ad vl vl2 m m2 : Nat → Int32} {ct n : Nat} {z : Int32} (hb : ∀ k, k < n → bt2 k = bt k ∧ vl2 k = vl k ∧ (∃ q : Nat, q ≤ 8 ∧ bt k = nI q) ∧ (∃ q : Nat, q < 2 ^ 31 ∧ vl k = nI q)) (hm : ∀ k, k < 24 → m2 k = m k) :
    ∀ (f k : Nat), f + k = n → ∃ (r : Int32) (s9 : Int64) (c9 d9 : Nat → Int32) (j9 : Nat), jnE bt rk ad vl m ct n z f k = (r, s9, c9, j9) ∧ jnM bt2 rk ad vl2 m2 ct n z f k = (r, s9, d9, j9) ∧ ∀ q, q < 24 → d9 q = c9 q
  | 0, k, h => ⟨_, _, _, _, _, rfl, (by
      show ((-1 : Int32), linS rk ad (nI n) (jnS rk ad vl2 ct k) ct, linC rk (nI n) (jnC rk ct m2 k) ct, k) = _
      rw [jnS_eq k (fun q hq => (hb q (by omega)).2.1)]), linC_eq (jnC_eq hm k) ct⟩
  | f + 1, k, h => by
    obtain ⟨b1, b2, ⟨q, hq, b3⟩, b4⟩ := hb k (by omega)
    have e1 := jnS_eq (rk := rk) (ad := ad) (ct := ct) k (fun q hq => (hb q (by omega)).2.1)
    have e2 := jnS_eq (rk := rk) (ad := ad) (ct := ct) (k + 1) (fun q hq => (hb q (by omega)).2.1)
    by_cases c1 : nI k = z
    · refine ⟨-1, jnS rk ad vl ct k, jnC rk ct m k, jnC rk ct m2 k, k, by simp only [jnE, eq_true c1, ↓reduceIte], by simp only [jnM, eq_true c1, e1, ↓reduceIte], jnC_eq hm k⟩
    · have hs := st_eq hq b4
      rw [← b3] at hs
      by_cases c2 : stl (bt k) (vl k) = 0
      · have c3 : stm (bt2 k) (vl2 k) = 0 := by rw [b1, b2]; exact hs.mp c2
        obtain ⟨r, s9, c9, d9, j9, i1, i2, i3⟩ := jn_eq (z := z) hb hm f (k + 1) (by omega)
        exact ⟨r, s9, c9, d9, j9, by simp only [jnE, c1, eq_true c2, ↓reduceIte]; exact i1, by simp only [jnM, c1, eq_true c3, ↓reduceIte]; exact i2, i3⟩
      · have c3 : ¬ stm (bt2 k) (vl2 k) = 0 := by rw [b1, b2]; exact fun q => c2 (hs.mpr q)
        exact ⟨nI k, jnS rk ad vl ct (k + 1), jnC rk ct m (k + 1), jnC rk ct m2 (k + 1), k + 1, by simp only [jnE, c1, c2, ↓reduceIte], by simp only [jnM, c1, c3, e2, ↓reduceIte], jnC_eq hm (k + 1)⟩
theorem sw_eq {wk lt lo wk2 lt2 lo2 : Nat → Int32} {j : Nat} (hj : j < 2 ^ 31) (h1 : wk2 j = wk j) (h2 : lo2 j = lo j) (h3 : lt2 j = lt j ∨ lo j = 0) : swl wk lt lo (nI j) = swm wk2 lt2 lo2 j := by
  unfold swl swm
  rw [nI_clamp hj, h1, h2]
  rcases h3 with h3 | h3
  · rw [h3]
    by_cases a : wk j < lt j
    · rw [if_pos a, if_pos (Int32.le_of_lt a)]
    · rw [if_neg a]
      by_cases b : wk j ≤ lt j
      · rw [if_pos b]
        have : wk j = lt j := Int32.toInt_inj.mp (by
          have x1 := Int32.le_iff_toInt_le.mp b
          have x2 : ¬ (wk j).toInt < (lt j).toInt := fun q => a (Int32.lt_iff_toInt_lt.mpr q)
          omega)
        rw [this]
      · rw [if_neg b]
  · rw [h3, Int32.zero_mul, Int32.zero_mul]
