theorem o20 : ((2 : Int32) = 0) = False := eq_false (by decide)
theorem o1le : ((1 : Int32) ≤ 0) = False := eq_false (by decide)
theorem o2le : ((2 : Int32) ≤ 0) = False := eq_false (by decide)
theorem o0le : ((0 : Int32) ≤ 0) = True := eq_true (by decide)
theorem relC {i n ct : Nat} {wk sd bt lt lo rk ad vl bg cm wk2 sd2 bt2 lt2 lo2 vl2 bg2 cm2 : Nat → Int32} {th sp gd rf rd js sn wl : Int32} {sm : Int64} (h : RelP i n wk sd bt lt lo vl bg cm gd ct rd wk2 sd2 bt2 lt2 lo2 vl2 bg2 cm2) : Rel i (n, wk, sd, bt, lt, lo, rk, ad, vl, bg, cm, sp, gd, rf, ct, rd, sm, js, sn, wl) (th, n, wk2, sd2, bt2, lt2, lo2, ct, rk, ad, sp, gd, rf, sm, js, sn, wl, vl2, bg2, cm2) := ⟨⟨rfl, rfl, rfl, rfl, rfl, rfl, rfl, rfl, rfl, rfl, rfl⟩, h⟩
theorem le_pred {k : Int32} {c : Nat} (h1 : ¬ k < 0) (hc : c ≤ 24) : (k < nI c) ↔ (k ≤ nI c - 1) := by
  obtain ⟨j, hj, rfl⟩ := nI_of h1
  rcases Nat.eq_zero_or_pos c with rfl | h0
  · rw [nI_0]
    have e : ((0 : Int32) - 1).toInt = -1 := by decide
    have e0 : (0 : Int32).toInt = 0 := by decide
    rw [Int32.lt_iff_toInt_lt, Int32.le_iff_toInt_le, e, e0, nI_toInt hj]; omega
  · rw [nI_m1 h0, nI_ltI hj (by omega), nI_leI hj (by omega)]; omega
theorem out4 {k : Int32} (a : ¬ k = 0) (b : ¬ k = 1) (c : ¬ k = 2) (d : ¬ k = 3) : k < 0 ∨ (¬ k < 0 ∧ ¬ k ≤ 3) := by
  by_cases h : k < 0
  · exact Or.inl h
  · refine Or.inr ⟨h, fun q => ?_⟩
    obtain ⟨j, hj, rfl⟩ := nI_of h
    have := (nI_leI (a := j) (b := 3) hj (by omega)).mp q
    have : j = 0 ∨ j = 1 ∨ j = 2 ∨ j = 3 := by omega
    rcases this with rfl | rfl | rfl | rfl
    · exact a rfl
    · exact b rfl
    · exact c rfl
    · exact d rfl
set_option maxHeartbeats 4000000 in
set_option maxRecDepth 100000 in
theorem rel_share {i : Nat} {u : xS} {v : mS} (h : Rel i u v) (hi : i < 100000) (k : Int32) (w : Int32) (x : Int32) (b : Int32) : R3 i (f_share u k w x b) ((m_share v k w x b).1.toInt64, (m_share v k w x b).2) := by
  obtain ⟨n, wk, sd, bt, lt, lo, rk, ad, vl, bg, cm, sp, gd, rf, ct, rd, sm, js, sn, wl⟩ := u
  obtain ⟨th, n2, wk2, sd2, bt2, lt2, lo2, ct2, rk2, ad2, sp2, gd2, rf2, sm2, js2, sn2, wl2, vl2, bg2, cm2⟩ := v
  obtain ⟨⟨e1, e2, e3, e4, e5, e6, e7, e8, e9, e10, e11⟩, hp⟩ := h
  subst e1 e2 e3 e4 e5 e6 e7 e8 e9 e10 e11
  unfold R3
  obtain ⟨h1, h2, h3, ⟨j, hj, h4, h4b⟩, h5, h6⟩ := id hp
  have hg := nn_rd hi hj h4 h4b
  by_cases a1 : k < 0
  · skip
    have eF : f_share (n2, wk, sd, bt, lt, lo, rk2, ad2, vl, bg, cm, sp2, gd2, rf2, ct2, rd, sm2, js2, sn2, wl2) k w x b = (1, 0, n2, wk, sd, bt, lt, lo, rk2, ad2, vl, bg, cm, sp2, gd2, rf2, ct2, rd, sm2, js2, sn2, wl2) := by simp only [f_share, a1, ↓reduceIte]
    have eG : m_share (th, n2, wk2, sd2, bt2, lt2, lo2, ct2, rk2, ad2, sp2, gd2, rf2, sm2, js2, sn2, wl2, vl2, bg2, cm2) k w x b = (0, 1, n2, wk2, sd2, bt2, lt2, lo2, ct2, rk2, ad2, sp2, gd2, rf2, sm2, js2, sn2, wl2, vl2, bg2, cm2) := by simp only [m_share, nn, rfr, rft, isS_eq, inn_eq, o10, o1le, o2le, o0le, o20, a1, ↓reduceIte]
    rw [eF, eG]
    refine ⟨rfl, fun q => absurd (show (1 : Int32) = 0 from q) (by decide), relC ?_⟩
    exact hp.up
  · skip
    by_cases a2 : k < nI n2
    · skip
      by_cases a3 : w < 1
      · skip
        have eF : f_share (n2, wk, sd, bt, lt, lo, rk2, ad2, vl, bg, cm, sp2, gd2, rf2, ct2, rd, sm2, js2, sn2, wl2) k w x b = (2, 0, n2, wk, sd, bt, lt, lo, rk2, ad2, vl, bg, cm, sp2, gd2, rf2, ct2, rd, sm2, js2, sn2, wl2) := by simp only [f_share, a1, a2, a3, ↓reduceIte]
        have eG : m_share (th, n2, wk2, sd2, bt2, lt2, lo2, ct2, rk2, ad2, sp2, gd2, rf2, sm2, js2, sn2, wl2, vl2, bg2, cm2) k w x b = (0, 2, n2, wk2, sd2, bt2, lt2, lo2, ct2, rk2, ad2, sp2, gd2, rf2, sm2, js2, sn2, wl2, vl2, bg2, cm2) := by simp only [m_share, nn, rfr, rft, isS_eq, inn_eq, o10, o1le, o2le, o0le, o20, a1, a2, a3, ↓reduceIte]
        rw [eF, eG]
        refine ⟨rfl, fun q => absurd (show (2 : Int32) = 0 from q) (by decide), relC ?_⟩
        exact hp.up
      · skip
        by_cases a4 : w ≤ 30
        · skip
          by_cases a5 : b < 0
          · skip
            have eF : f_share (n2, wk, sd, bt, lt, lo, rk2, ad2, vl, bg, cm, sp2, gd2, rf2, ct2, rd, sm2, js2, sn2, wl2) k w x b = (2, 0, n2, wk, sd, bt, lt, lo, rk2, ad2, vl, bg, cm, sp2, gd2, rf2, ct2, rd, sm2, js2, sn2, wl2) := by simp only [f_share, a1, a2, a3, a4, a5, ↓reduceIte]
            have eG : m_share (th, n2, wk2, sd2, bt2, lt2, lo2, ct2, rk2, ad2, sp2, gd2, rf2, sm2, js2, sn2, wl2, vl2, bg2, cm2) k w x b = (0, 2, n2, wk2, sd2, bt2, lt2, lo2, ct2, rk2, ad2, sp2, gd2, rf2, sm2, js2, sn2, wl2, vl2, bg2, cm2) := by simp only [m_share, nn, rfr, rft, isS_eq, inn_eq, o10, o1le, o2le, o0le, o20, a1, a2, a3, a4, a5, ↓reduceIte]
            rw [eF, eG]
            refine ⟨rfl, fun q => absurd (show (2 : Int32) = 0 from q) (by decide), relC ?_⟩
            exact hp.up
          · skip
            by_cases a6 : b ≤ 8
            · skip
              have hk := in_lt a1 a2 h2
              obtain ⟨p1, p2, p3, p4, p5, p6, p7, p8, p9⟩ := h5 k.toNatClampNeg hk
              have eF : f_share (n2, wk, sd, bt, lt, lo, rk2, ad2, vl, bg, cm, sp2, gd2, rf2, ct2, rd, sm2, js2, sn2, wl2) k w x b = (0, (wk k.toNatClampNeg).toInt64, n2, upd wk k.toNatClampNeg w, upd sd k.toNatClampNeg x, upd bt k.toNatClampNeg b, lt, lo, rk2, ad2, vl, bg, cm, sp2, gd2, rf2, ct2, rd, sm2, js2, sn2, wl2) := by simp only [f_share, a1, a2, a3, a4, a5, a6, ↓reduceIte]
              have eG : m_share (th, n2, wk2, sd2, bt2, lt2, lo2, ct2, rk2, ad2, sp2, gd2, rf2, sm2, js2, sn2, wl2, vl2, bg2, cm2) k w x b = (wk2 k.toNatClampNeg, 0, n2, upd wk2 k.toNatClampNeg w, upd sd2 k.toNatClampNeg x, upd bt2 k.toNatClampNeg b, lt2, lo2, ct2, rk2, ad2, sp2, gd2, rf2, sm2, js2, sn2, wl2, vl2, bg2, cm2) := by simp only [m_share, nn, rfr, rft, isS_eq, inn_eq, o10, o1le, o2le, o0le, o20, a1, a2, a3, a4, a5, a6, ↓reduceIte]
              rw [eF, eG]
              refine ⟨rfl, fun _ => by show (wk k.toNatClampNeg).toInt64 = (wk2 k.toNatClampNeg).toInt64; rw [p1], relC ?_⟩
              refine ⟨h1, h2, h3, ⟨j, by omega, h4, h4b⟩, fun y hy => ?_, h6⟩
              obtain ⟨q1, q2, q3, q4, q5, q6, q7, q8, q9⟩ := h5 y hy
              by_cases e : y = k.toNatClampNeg
              · simp only [upd, eq_true e, ↓reduceIte]
                exact ⟨rfl, rfl, rfl, q4, q5, q6, q7, bt_ex a5 (by decide) a6, q9⟩
              · simp only [upd, e, ↓reduceIte]
                exact ⟨q1, q2, q3, q4, q5, q6, q7, q8, q9⟩
            · skip
              have eF : f_share (n2, wk, sd, bt, lt, lo, rk2, ad2, vl, bg, cm, sp2, gd2, rf2, ct2, rd, sm2, js2, sn2, wl2) k w x b = (2, 0, n2, wk, sd, bt, lt, lo, rk2, ad2, vl, bg, cm, sp2, gd2, rf2, ct2, rd, sm2, js2, sn2, wl2) := by simp only [f_share, a1, a2, a3, a4, a5, a6, ↓reduceIte]
              have eG : m_share (th, n2, wk2, sd2, bt2, lt2, lo2, ct2, rk2, ad2, sp2, gd2, rf2, sm2, js2, sn2, wl2, vl2, bg2, cm2) k w x b = (0, 2, n2, wk2, sd2, bt2, lt2, lo2, ct2, rk2, ad2, sp2, gd2, rf2, sm2, js2, sn2, wl2, vl2, bg2, cm2) := by simp only [m_share, nn, rfr, rft, isS_eq, inn_eq, o10, o1le, o2le, o0le, o20, a1, a2, a3, a4, a5, a6, ↓reduceIte]
              rw [eF, eG]
              refine ⟨rfl, fun q => absurd (show (2 : Int32) = 0 from q) (by decide), relC ?_⟩
              exact hp.up
        · skip
          have eF : f_share (n2, wk, sd, bt, lt, lo, rk2, ad2, vl, bg, cm, sp2, gd2, rf2, ct2, rd, sm2, js2, sn2, wl2) k w x b = (2, 0, n2, wk, sd, bt, lt, lo, rk2, ad2, vl, bg, cm, sp2, gd2, rf2, ct2, rd, sm2, js2, sn2, wl2) := by simp only [f_share, a1, a2, a3, a4, ↓reduceIte]
          have eG : m_share (th, n2, wk2, sd2, bt2, lt2, lo2, ct2, rk2, ad2, sp2, gd2, rf2, sm2, js2, sn2, wl2, vl2, bg2, cm2) k w x b = (0, 2, n2, wk2, sd2, bt2, lt2, lo2, ct2, rk2, ad2, sp2, gd2, rf2, sm2, js2, sn2, wl2, vl2, bg2, cm2) := by simp only [m_share, nn, rfr, rft, isS_eq, inn_eq, o10, o1le, o2le, o0le, o20, a1, a2, a3, a4, ↓reduceIte]
          rw [eF, eG]
          refine ⟨rfl, fun q => absurd (show (2 : Int32) = 0 from q) (by decide), relC ?_⟩
          exact hp.up
    · skip
      have eF : f_share (n2, wk, sd, bt, lt, lo, rk2, ad2, vl, bg, cm, sp2, gd2, rf2, ct2, rd, sm2, js2, sn2, wl2) k w x b = (1, 0, n2, wk, sd, bt, lt, lo, rk2, ad2, vl, bg, cm, sp2, gd2, rf2, ct2, rd, sm2, js2, sn2, wl2) := by simp only [f_share, a1, a2, ↓reduceIte]
      have eG : m_share (th, n2, wk2, sd2, bt2, lt2, lo2, ct2, rk2, ad2, sp2, gd2, rf2, sm2, js2, sn2, wl2, vl2, bg2, cm2) k w x b = (0, 1, n2, wk2, sd2, bt2, lt2, lo2, ct2, rk2, ad2, sp2, gd2, rf2, sm2, js2, sn2, wl2, vl2, bg2, cm2) := by simp only [m_share, nn, rfr, rft, isS_eq, inn_eq, o10, o1le, o2le, o0le, o20, a1, a2, ↓reduceIte]
      rw [eF, eG]
      refine ⟨rfl, fun q => absurd (show (1 : Int32) = 0 from q) (by decide), relC ?_⟩
      exact hp.up
set_option maxHeartbeats 4000000 in
set_option maxRecDepth 100000 in
theorem rel_fails {i : Nat} {u : xS} {v : mS} (h : Rel i u v) (hi : i < 100000) (k : Int32) (w : Int32) (x : Int32) : R3 i (f_fails u k w x) ((m_fails v k w x).1.toInt64, (m_fails v k w x).2) := by
  obtain ⟨n, wk, sd, bt, lt, lo, rk, ad, vl, bg, cm, sp, gd, rf, ct, rd, sm, js, sn, wl⟩ := u
  obtain ⟨th, n2, wk2, sd2, bt2, lt2, lo2, ct2, rk2, ad2, sp2, gd2, rf2, sm2, js2, sn2, wl2, vl2, bg2, cm2⟩ := v
  obtain ⟨⟨e1, e2, e3, e4, e5, e6, e7, e8, e9, e10, e11⟩, hp⟩ := h
  subst e1 e2 e3 e4 e5 e6 e7 e8 e9 e10 e11
  unfold R3
  obtain ⟨h1, h2, h3, ⟨j, hj, h4, h4b⟩, h5, h6⟩ := id hp
  have hg := nn_rd hi hj h4 h4b
  by_cases a1 : k < 0
  · skip
    have eF : f_fails (n2, wk, sd, bt, lt, lo, rk2, ad2, vl, bg, cm, sp2, gd2, rf2, ct2, rd, sm2, js2, sn2, wl2) k w x = (1, 0, n2, wk, sd, bt, lt, lo, rk2, ad2, vl, bg, cm, sp2, gd2, rf2, ct2, rd, sm2, js2, sn2, wl2) := by simp only [f_fails, a1, ↓reduceIte]
    have eG : m_fails (th, n2, wk2, sd2, bt2, lt2, lo2, ct2, rk2, ad2, sp2, gd2, rf2, sm2, js2, sn2, wl2, vl2, bg2, cm2) k w x = (0, 1, n2, wk2, sd2, bt2, lt2, lo2, ct2, rk2, ad2, sp2, gd2, rf2, sm2, js2, sn2, wl2, vl2, bg2, cm2) := by simp only [m_fails, nn, rfr, rft, isS_eq, inn_eq, o10, o1le, o2le, o0le, o20, a1, ↓reduceIte]
    rw [eF, eG]
    refine ⟨rfl, fun q => absurd (show (1 : Int32) = 0 from q) (by decide), relC ?_⟩
    exact hp.up
  · skip
    by_cases a2 : k < nI n2
    · skip
      by_cases a3 : w < 1
      · skip
        have eF : f_fails (n2, wk, sd, bt, lt, lo, rk2, ad2, vl, bg, cm, sp2, gd2, rf2, ct2, rd, sm2, js2, sn2, wl2) k w x = (2, 0, n2, wk, sd, bt, lt, lo, rk2, ad2, vl, bg, cm, sp2, gd2, rf2, ct2, rd, sm2, js2, sn2, wl2) := by simp only [f_fails, a1, a2, a3, ↓reduceIte]
        have eG : m_fails (th, n2, wk2, sd2, bt2, lt2, lo2, ct2, rk2, ad2, sp2, gd2, rf2, sm2, js2, sn2, wl2, vl2, bg2, cm2) k w x = (0, 2, n2, wk2, sd2, bt2, lt2, lo2, ct2, rk2, ad2, sp2, gd2, rf2, sm2, js2, sn2, wl2, vl2, bg2, cm2) := by simp only [m_fails, nn, rfr, rft, isS_eq, inn_eq, o10, o1le, o2le, o0le, o20, a1, a2, a3, ↓reduceIte]
        rw [eF, eG]
        refine ⟨rfl, fun q => absurd (show (2 : Int32) = 0 from q) (by decide), relC ?_⟩
        exact hp.up
      · skip
        by_cases a4 : w ≤ 30
        · skip
          by_cases a5 : x < 0
          · skip
            have eF : f_fails (n2, wk, sd, bt, lt, lo, rk2, ad2, vl, bg, cm, sp2, gd2, rf2, ct2, rd, sm2, js2, sn2, wl2) k w x = (2, 0, n2, wk, sd, bt, lt, lo, rk2, ad2, vl, bg, cm, sp2, gd2, rf2, ct2, rd, sm2, js2, sn2, wl2) := by simp only [f_fails, a1, a2, a3, a4, a5, ↓reduceIte]
            have eG : m_fails (th, n2, wk2, sd2, bt2, lt2, lo2, ct2, rk2, ad2, sp2, gd2, rf2, sm2, js2, sn2, wl2, vl2, bg2, cm2) k w x = (0, 2, n2, wk2, sd2, bt2, lt2, lo2, ct2, rk2, ad2, sp2, gd2, rf2, sm2, js2, sn2, wl2, vl2, bg2, cm2) := by simp only [m_fails, nn, rfr, rft, isS_eq, inn_eq, o10, o1le, o2le, o0le, o20, a1, a2, a3, a4, a5, ↓reduceIte]
            rw [eF, eG]
            refine ⟨rfl, fun q => absurd (show (2 : Int32) = 0 from q) (by decide), relC ?_⟩
            exact hp.up
          · skip
            by_cases a6 : x ≤ 4
            · skip
              have hk := in_lt a1 a2 h2
              obtain ⟨p1, p2, p3, p4, p5, p6, p7, p8, p9⟩ := h5 k.toNatClampNeg hk
              have eF : f_fails (n2, wk, sd, bt, lt, lo, rk2, ad2, vl, bg, cm, sp2, gd2, rf2, ct2, rd, sm2, js2, sn2, wl2) k w x = (0, (lo k.toNatClampNeg).toInt64, n2, wk, sd, bt, upd lt k.toNatClampNeg w, upd lo k.toNatClampNeg x, rk2, ad2, vl, bg, cm, sp2, gd2, rf2, ct2, rd, sm2, js2, sn2, wl2) := by simp only [f_fails, a1, a2, a3, a4, a5, a6, ↓reduceIte]
              have eG : m_fails (th, n2, wk2, sd2, bt2, lt2, lo2, ct2, rk2, ad2, sp2, gd2, rf2, sm2, js2, sn2, wl2, vl2, bg2, cm2) k w x = (lo2 k.toNatClampNeg, 0, n2, wk2, sd2, bt2, upd lt2 k.toNatClampNeg w, upd lo2 k.toNatClampNeg x, ct2, rk2, ad2, sp2, gd2, rf2, sm2, js2, sn2, wl2, vl2, bg2, cm2) := by simp only [m_fails, nn, rfr, rft, isS_eq, inn_eq, o10, o1le, o2le, o0le, o20, a1, a2, a3, a4, a5, a6, ↓reduceIte]
              rw [eF, eG]
              refine ⟨rfl, fun _ => by show (lo k.toNatClampNeg).toInt64 = (lo2 k.toNatClampNeg).toInt64; rw [p4], relC ?_⟩
              refine ⟨h1, h2, h3, ⟨j, by omega, h4, h4b⟩, fun y hy => ?_, h6⟩
              obtain ⟨q1, q2, q3, q4, q5, q6, q7, q8, q9⟩ := h5 y hy
              by_cases e : y = k.toNatClampNeg
              · simp only [upd, eq_true e, ↓reduceIte]
                exact ⟨q1, q2, q3, rfl, Or.inl rfl, q6, q7, q8, bt_ex a5 (by decide) a6⟩
              · simp only [upd, e, ↓reduceIte]
                exact ⟨q1, q2, q3, q4, q5, q6, q7, q8, q9⟩
            · skip
              have eF : f_fails (n2, wk, sd, bt, lt, lo, rk2, ad2, vl, bg, cm, sp2, gd2, rf2, ct2, rd, sm2, js2, sn2, wl2) k w x = (2, 0, n2, wk, sd, bt, lt, lo, rk2, ad2, vl, bg, cm, sp2, gd2, rf2, ct2, rd, sm2, js2, sn2, wl2) := by simp only [f_fails, a1, a2, a3, a4, a5, a6, ↓reduceIte]
              have eG : m_fails (th, n2, wk2, sd2, bt2, lt2, lo2, ct2, rk2, ad2, sp2, gd2, rf2, sm2, js2, sn2, wl2, vl2, bg2, cm2) k w x = (0, 2, n2, wk2, sd2, bt2, lt2, lo2, ct2, rk2, ad2, sp2, gd2, rf2, sm2, js2, sn2, wl2, vl2, bg2, cm2) := by simp only [m_fails, nn, rfr, rft, isS_eq, inn_eq, o10, o1le, o2le, o0le, o20, a1, a2, a3, a4, a5, a6, ↓reduceIte]
              rw [eF, eG]
              refine ⟨rfl, fun q => absurd (show (2 : Int32) = 0 from q) (by decide), relC ?_⟩
              exact hp.up
        · skip
          have eF : f_fails (n2, wk, sd, bt, lt, lo, rk2, ad2, vl, bg, cm, sp2, gd2, rf2, ct2, rd, sm2, js2, sn2, wl2) k w x = (2, 0, n2, wk, sd, bt, lt, lo, rk2, ad2, vl, bg, cm, sp2, gd2, rf2, ct2, rd, sm2, js2, sn2, wl2) := by simp only [f_fails, a1, a2, a3, a4, ↓reduceIte]
          have eG : m_fails (th, n2, wk2, sd2, bt2, lt2, lo2, ct2, rk2, ad2, sp2, gd2, rf2, sm2, js2, sn2, wl2, vl2, bg2, cm2) k w x = (0, 2, n2, wk2, sd2, bt2, lt2, lo2, ct2, rk2, ad2, sp2, gd2, rf2, sm2, js2, sn2, wl2, vl2, bg2, cm2) := by simp only [m_fails, nn, rfr, rft, isS_eq, inn_eq, o10, o1le, o2le, o0le, o20, a1, a2, a3, a4, ↓reduceIte]
          rw [eF, eG]
          refine ⟨rfl, fun q => absurd (show (2 : Int32) = 0 from q) (by decide), relC ?_⟩
          exact hp.up
    · skip
      have eF : f_fails (n2, wk, sd, bt, lt, lo, rk2, ad2, vl, bg, cm, sp2, gd2, rf2, ct2, rd, sm2, js2, sn2, wl2) k w x = (1, 0, n2, wk, sd, bt, lt, lo, rk2, ad2, vl, bg, cm, sp2, gd2, rf2, ct2, rd, sm2, js2, sn2, wl2) := by simp only [f_fails, a1, a2, ↓reduceIte]
      have eG : m_fails (th, n2, wk2, sd2, bt2, lt2, lo2, ct2, rk2, ad2, sp2, gd2, rf2, sm2, js2, sn2, wl2, vl2, bg2, cm2) k w x = (0, 1, n2, wk2, sd2, bt2, lt2, lo2, ct2, rk2, ad2, sp2, gd2, rf2, sm2, js2, sn2, wl2, vl2, bg2, cm2) := by simp only [m_fails, nn, rfr, rft, isS_eq, inn_eq, o10, o1le, o2le, o0le, o20, a1, a2, ↓reduceIte]
      rw [eF, eG]
      refine ⟨rfl, fun q => absurd (show (1 : Int32) = 0 from q) (by decide), relC ?_⟩
      exact hp.up
set_option maxHeartbeats 4000000 in
set_option maxRecDepth 100000 in
theorem rel_act {i : Nat} {u : xS} {v : mS} (h : Rel i u v) (hi : i < 100000) (k : Int32) (w : Int32) : R3 i (f_act u k w) ((m_act v k w).1.toInt64, (m_act v k w).2) := by
  obtain ⟨n, wk, sd, bt, lt, lo, rk, ad, vl, bg, cm, sp, gd, rf, ct, rd, sm, js, sn, wl⟩ := u
  obtain ⟨th, n2, wk2, sd2, bt2, lt2, lo2, ct2, rk2, ad2, sp2, gd2, rf2, sm2, js2, sn2, wl2, vl2, bg2, cm2⟩ := v
  obtain ⟨⟨e1, e2, e3, e4, e5, e6, e7, e8, e9, e10, e11⟩, hp⟩ := h
  subst e1 e2 e3 e4 e5 e6 e7 e8 e9 e10 e11
  unfold R3
  obtain ⟨h1, h2, h3, ⟨j, hj, h4, h4b⟩, h5, h6⟩ := id hp
  have hg := nn_rd hi hj h4 h4b
  by_cases a1 : k < 0
  · skip
    have eF : f_act (n2, wk, sd, bt, lt, lo, rk2, ad2, vl, bg, cm, sp2, gd2, rf2, ct2, rd, sm2, js2, sn2, wl2) k w = (1, 0, n2, wk, sd, bt, lt, lo, rk2, ad2, vl, bg, cm, sp2, gd2, rf2, ct2, rd, sm2, js2, sn2, wl2) := by simp only [f_act, a1, ↓reduceIte]
    have eG : m_act (th, n2, wk2, sd2, bt2, lt2, lo2, ct2, rk2, ad2, sp2, gd2, rf2, sm2, js2, sn2, wl2, vl2, bg2, cm2) k w = (0, 1, n2, wk2, sd2, bt2, lt2, lo2, ct2, rk2, ad2, sp2, gd2, rf2, sm2, js2, sn2, wl2, vl2, bg2, cm2) := by simp only [m_act, nn, rfr, rft, isS_eq, inn_eq, o10, o1le, o2le, o0le, o20, a1, ↓reduceIte]
    rw [eF, eG]
    refine ⟨rfl, fun q => absurd (show (1 : Int32) = 0 from q) (by decide), relC ?_⟩
    exact hp.up
  · skip
    by_cases a2 : k ≤ nI n2
    · skip
      by_cases a3 : nI ct2 < 24
      · skip
        have hc := ct_lt h3 a3
        have a4 : ¬ nI ct2 = 24 := fun q => by rw [q] at a3; exact absurd a3 (by decide)
        have eF : f_act (n2, wk, sd, bt, lt, lo, rk2, ad2, vl, bg, cm, sp2, gd2, rf2, ct2, rd, sm2, js2, sn2, wl2) k w = (0, (nI ct2).toInt64, n2, wk, sd, bt, lt, lo, upd rk2 ct2 k, upd ad2 ct2 w, vl, bg, cm, sp2, gd2, rf2, ct2 + 1, rd, sm2, js2, sn2, wl2) := by simp only [f_act, a1, a2, a3, a4, ↓reduceIte]
        have eG : m_act (th, n2, wk2, sd2, bt2, lt2, lo2, ct2, rk2, ad2, sp2, gd2, rf2, sm2, js2, sn2, wl2, vl2, bg2, cm2) k w = (nI ct2, 0, n2, wk2, sd2, bt2, lt2, lo2, ct2 + 1, upd rk2 ct2 k, upd ad2 ct2 w, sp2, gd2, rf2, sm2, js2, sn2, wl2, vl2, bg2, cm2) := by simp only [m_act, nn, rfr, rft, isS_eq, inn_eq, o10, o1le, o2le, o0le, o20, a1, a2, a3, a4, ↓reduceIte]
        rw [eF, eG]
        refine ⟨rfl, fun _ => rfl, relC ?_⟩
        exact ⟨h1, h2, hc, ⟨j, by omega, h4, h4b⟩, h5, h6⟩
      · skip
        have a4 : nI ct2 = 24 := by
          rcases Nat.lt_or_ge ct2 24 with q | q
          · exact absurd (nI_lt (b := 24) q (by omega)) a3
          · rw [show ct2 = 24 by omega]; rfl
        have eF : f_act (n2, wk, sd, bt, lt, lo, rk2, ad2, vl, bg, cm, sp2, gd2, rf2, ct2, rd, sm2, js2, sn2, wl2) k w = (2, 0, n2, wk, sd, bt, lt, lo, rk2, ad2, vl, bg, cm, sp2, gd2, rf2, ct2, rd, sm2, js2, sn2, wl2) := by simp only [f_act, a1, a2, a3, ↓reduceIte]
        have eG : m_act (th, n2, wk2, sd2, bt2, lt2, lo2, ct2, rk2, ad2, sp2, gd2, rf2, sm2, js2, sn2, wl2, vl2, bg2, cm2) k w = (0, 2, n2, wk2, sd2, bt2, lt2, lo2, ct2, rk2, ad2, sp2, gd2, rf2, sm2, js2, sn2, wl2, vl2, bg2, cm2) := by simp only [m_act, nn, rfr, rft, isS_eq, inn_eq, o10, o1le, o2le, o0le, o20, a1, a2, a3, eq_true a4, ↓reduceIte]
        rw [eF, eG]
        refine ⟨rfl, fun q => absurd (show (2 : Int32) = 0 from q) (by decide), relC ?_⟩
        exact hp.up
    · skip
      have eF : f_act (n2, wk, sd, bt, lt, lo, rk2, ad2, vl, bg, cm, sp2, gd2, rf2, ct2, rd, sm2, js2, sn2, wl2) k w = (1, 0, n2, wk, sd, bt, lt, lo, rk2, ad2, vl, bg, cm, sp2, gd2, rf2, ct2, rd, sm2, js2, sn2, wl2) := by simp only [f_act, a1, a2, ↓reduceIte]
      have eG : m_act (th, n2, wk2, sd2, bt2, lt2, lo2, ct2, rk2, ad2, sp2, gd2, rf2, sm2, js2, sn2, wl2, vl2, bg2, cm2) k w = (0, 1, n2, wk2, sd2, bt2, lt2, lo2, ct2, rk2, ad2, sp2, gd2, rf2, sm2, js2, sn2, wl2, vl2, bg2, cm2) := by simp only [m_act, nn, rfr, rft, isS_eq, inn_eq, o10, o1le, o2le, o0le, o20, a1, a2, ↓reduceIte]
      rw [eF, eG]
      refine ⟨rfl, fun q => absurd (show (1 : Int32) = 0 from q) (by decide), relC ?_⟩
      exact hp.up
set_option maxHeartbeats 4000000 in
set_option maxRecDepth 100000 in
theorem rel_stop {i : Nat} {u : xS} {v : mS} (h : Rel i u v) (hi : i < 100000) (k : Int32) : R3 i (f_stop u k) ((m_stop v k).1.toInt64, (m_stop v k).2) := by
  obtain ⟨n, wk, sd, bt, lt, lo, rk, ad, vl, bg, cm, sp, gd, rf, ct, rd, sm, js, sn, wl⟩ := u
  obtain ⟨th, n2, wk2, sd2, bt2, lt2, lo2, ct2, rk2, ad2, sp2, gd2, rf2, sm2, js2, sn2, wl2, vl2, bg2, cm2⟩ := v
  obtain ⟨⟨e1, e2, e3, e4, e5, e6, e7, e8, e9, e10, e11⟩, hp⟩ := h
  subst e1 e2 e3 e4 e5 e6 e7 e8 e9 e10 e11
  unfold R3
  obtain ⟨h1, h2, h3, ⟨j, hj, h4, h4b⟩, h5, h6⟩ := id hp
  have hg := nn_rd hi hj h4 h4b
  by_cases a0 : k = -1
  · skip
    have eF : f_stop (n2, wk, sd, bt, lt, lo, rk2, ad2, vl, bg, cm, sp2, gd2, rf2, ct2, rd, sm2, js2, sn2, wl2) k = (0, sp2.toInt64, n2, wk, sd, bt, lt, lo, rk2, ad2, vl, bg, cm, k, gd2, rf2, ct2, rd, sm2, js2, sn2, wl2) := by simp only [f_stop, eq_true a0, ↓reduceIte]
    have eG : m_stop (th, n2, wk2, sd2, bt2, lt2, lo2, ct2, rk2, ad2, sp2, gd2, rf2, sm2, js2, sn2, wl2, vl2, bg2, cm2) k = (sp2, 0, n2, wk2, sd2, bt2, lt2, lo2, ct2, rk2, ad2, k, gd2, rf2, sm2, js2, sn2, wl2, vl2, bg2, cm2) := by simp only [m_stop, nn, rfr, rft, isS_eq, inn_eq, o10, o1le, o2le, o0le, o20, eq_true a0, ↓reduceIte]
    rw [eF, eG]
    refine ⟨rfl, fun _ => rfl, relC ?_⟩
    exact hp.up
  · skip
    by_cases a1 : k < 0
    · skip
      have eF : f_stop (n2, wk, sd, bt, lt, lo, rk2, ad2, vl, bg, cm, sp2, gd2, rf2, ct2, rd, sm2, js2, sn2, wl2) k = (1, 0, n2, wk, sd, bt, lt, lo, rk2, ad2, vl, bg, cm, sp2, gd2, rf2, ct2, rd, sm2, js2, sn2, wl2) := by simp only [f_stop, a0, a1, ↓reduceIte]
      have eG : m_stop (th, n2, wk2, sd2, bt2, lt2, lo2, ct2, rk2, ad2, sp2, gd2, rf2, sm2, js2, sn2, wl2, vl2, bg2, cm2) k = (0, 1, n2, wk2, sd2, bt2, lt2, lo2, ct2, rk2, ad2, sp2, gd2, rf2, sm2, js2, sn2, wl2, vl2, bg2, cm2) := by simp only [m_stop, nn, rfr, rft, isS_eq, inn_eq, o10, o1le, o2le, o0le, o20, a0, a1, ↓reduceIte]
      rw [eF, eG]
      refine ⟨rfl, fun q => absurd (show (1 : Int32) = 0 from q) (by decide), relC ?_⟩
      exact hp.up
    · skip
      by_cases a2 : k < nI n2
      · skip
        have eF : f_stop (n2, wk, sd, bt, lt, lo, rk2, ad2, vl, bg, cm, sp2, gd2, rf2, ct2, rd, sm2, js2, sn2, wl2) k = (0, sp2.toInt64, n2, wk, sd, bt, lt, lo, rk2, ad2, vl, bg, cm, k, gd2, rf2, ct2, rd, sm2, js2, sn2, wl2) := by simp only [f_stop, a0, a1, a2, ↓reduceIte]
        have eG : m_stop (th, n2, wk2, sd2, bt2, lt2, lo2, ct2, rk2, ad2, sp2, gd2, rf2, sm2, js2, sn2, wl2, vl2, bg2, cm2) k = (sp2, 0, n2, wk2, sd2, bt2, lt2, lo2, ct2, rk2, ad2, k, gd2, rf2, sm2, js2, sn2, wl2, vl2, bg2, cm2) := by simp only [m_stop, nn, rfr, rft, isS_eq, inn_eq, o10, o1le, o2le, o0le, o20, a0, a1, a2, ↓reduceIte]
        rw [eF, eG]
        refine ⟨rfl, fun _ => rfl, relC ?_⟩
        exact hp.up
      · skip
        have eF : f_stop (n2, wk, sd, bt, lt, lo, rk2, ad2, vl, bg, cm, sp2, gd2, rf2, ct2, rd, sm2, js2, sn2, wl2) k = (1, 0, n2, wk, sd, bt, lt, lo, rk2, ad2, vl, bg, cm, sp2, gd2, rf2, ct2, rd, sm2, js2, sn2, wl2) := by simp only [f_stop, a0, a1, a2, ↓reduceIte]
        have eG : m_stop (th, n2, wk2, sd2, bt2, lt2, lo2, ct2, rk2, ad2, sp2, gd2, rf2, sm2, js2, sn2, wl2, vl2, bg2, cm2) k = (0, 1, n2, wk2, sd2, bt2, lt2, lo2, ct2, rk2, ad2, sp2, gd2, rf2, sm2, js2, sn2, wl2, vl2, bg2, cm2) := by simp only [m_stop, nn, rfr, rft, isS_eq, inn_eq, o10, o1le, o2le, o0le, o20, a0, a1, a2, ↓reduceIte]
        rw [eF, eG]
        refine ⟨rfl, fun q => absurd (show (1 : Int32) = 0 from q) (by decide), relC ?_⟩
        exact hp.up
set_option maxHeartbeats 4000000 in
set_option maxRecDepth 100000 in
theorem rel_joined {i : Nat} {u : xS} {v : mS} (h : Rel i u v) (hi : i < 100000) : R3 i (f_joined u) ((m_joined v).1, (m_joined v).2) := by
  obtain ⟨n, wk, sd, bt, lt, lo, rk, ad, vl, bg, cm, sp, gd, rf, ct, rd, sm, js, sn, wl⟩ := u
  obtain ⟨th, n2, wk2, sd2, bt2, lt2, lo2, ct2, rk2, ad2, sp2, gd2, rf2, sm2, js2, sn2, wl2, vl2, bg2, cm2⟩ := v
  obtain ⟨⟨e1, e2, e3, e4, e5, e6, e7, e8, e9, e10, e11⟩, hp⟩ := h
  subst e1 e2 e3 e4 e5 e6 e7 e8 e9 e10 e11
  unfold R3
  obtain ⟨h1, h2, h3, ⟨j, hj, h4, h4b⟩, h5, h6⟩ := id hp
  have hg := nn_rd hi hj h4 h4b
  by_cases a0 : rd = 0
  · skip
    have g0 := hg.mpr a0
    have eF : f_joined (n2, wk, sd, bt, lt, lo, rk2, ad2, vl, bg, cm, sp2, gd2, rf2, ct2, rd, sm2, js2, sn2, wl2) = (1, 0, n2, wk, sd, bt, lt, lo, rk2, ad2, vl, bg, cm, sp2, gd2, rf2, ct2, rd, sm2, js2, sn2, wl2) := by simp only [f_joined, eq_true a0, ↓reduceIte]
    have eG : m_joined (th, n2, wk2, sd2, bt2, lt2, lo2, ct2, rk2, ad2, sp2, gd2, rf2, sm2, js2, sn2, wl2, vl2, bg2, cm2) = (0, 1, n2, wk2, sd2, bt2, lt2, lo2, ct2, rk2, ad2, sp2, gd2, rf2, sm2, js2, sn2, wl2, vl2, bg2, cm2) := by simp only [m_joined, nn, rfr, rft, isS_eq, inn_eq, o10, o1le, o2le, o0le, o20, eq_true a0, eq_true g0, ↓reduceIte]
    rw [eF, eG]
    refine ⟨rfl, fun q => absurd (show (1 : Int32) = 0 from q) (by decide), relC ?_⟩
    exact hp.up
  · skip
    have g0 : ¬ gd2 = 0 := fun q => a0 (hg.mp q)
    have eF : f_joined (n2, wk, sd, bt, lt, lo, rk2, ad2, vl, bg, cm, sp2, gd2, rf2, ct2, rd, sm2, js2, sn2, wl2) = (0, sm2, n2, wk, sd, bt, lt, lo, rk2, ad2, vl, bg, cm, sp2, gd2, rf2, ct2, rd, sm2, js2, sn2, wl2) := by simp only [f_joined, a0, ↓reduceIte]
    have eG : m_joined (th, n2, wk2, sd2, bt2, lt2, lo2, ct2, rk2, ad2, sp2, gd2, rf2, sm2, js2, sn2, wl2, vl2, bg2, cm2) = (sm2, 0, n2, wk2, sd2, bt2, lt2, lo2, ct2, rk2, ad2, sp2, gd2, rf2, sm2, js2, sn2, wl2, vl2, bg2, cm2) := by simp only [m_joined, nn, rfr, rft, isS_eq, inn_eq, o10, o1le, o2le, o0le, o20, a0, g0, ↓reduceIte]
    rw [eF, eG]
    refine ⟨rfl, fun _ => rfl, relC ?_⟩
    exact hp.up
set_option maxHeartbeats 4000000 in
set_option maxRecDepth 100000 in
theorem rel_many {i : Nat} {u : xS} {v : mS} (h : Rel i u v) (hi : i < 100000) : R3 i (f_many u) ((m_many v).1.toInt64, (m_many v).2) := by
  obtain ⟨n, wk, sd, bt, lt, lo, rk, ad, vl, bg, cm, sp, gd, rf, ct, rd, sm, js, sn, wl⟩ := u
  obtain ⟨th, n2, wk2, sd2, bt2, lt2, lo2, ct2, rk2, ad2, sp2, gd2, rf2, sm2, js2, sn2, wl2, vl2, bg2, cm2⟩ := v
  obtain ⟨⟨e1, e2, e3, e4, e5, e6, e7, e8, e9, e10, e11⟩, hp⟩ := h
  subst e1 e2 e3 e4 e5 e6 e7 e8 e9 e10 e11
  unfold R3
  obtain ⟨h1, h2, h3, ⟨j, hj, h4, h4b⟩, h5, h6⟩ := id hp
  have hg := nn_rd hi hj h4 h4b
  by_cases a0 : rd = 0
  · skip
    have g0 := hg.mpr a0
    have eF : f_many (n2, wk, sd, bt, lt, lo, rk2, ad2, vl, bg, cm, sp2, gd2, rf2, ct2, rd, sm2, js2, sn2, wl2) = (1, 0, n2, wk, sd, bt, lt, lo, rk2, ad2, vl, bg, cm, sp2, gd2, rf2, ct2, rd, sm2, js2, sn2, wl2) := by simp only [f_many, eq_true a0, ↓reduceIte]
    have eG : m_many (th, n2, wk2, sd2, bt2, lt2, lo2, ct2, rk2, ad2, sp2, gd2, rf2, sm2, js2, sn2, wl2, vl2, bg2, cm2) = (0, 1, n2, wk2, sd2, bt2, lt2, lo2, ct2, rk2, ad2, sp2, gd2, rf2, sm2, js2, sn2, wl2, vl2, bg2, cm2) := by simp only [m_many, nn, rfr, rft, isS_eq, inn_eq, o10, o1le, o2le, o0le, o20, eq_true a0, eq_true g0, ↓reduceIte]
    rw [eF, eG]
    refine ⟨rfl, fun q => absurd (show (1 : Int32) = 0 from q) (by decide), relC ?_⟩
    exact hp.up
  · skip
    have g0 : ¬ gd2 = 0 := fun q => a0 (hg.mp q)
    have eF : f_many (n2, wk, sd, bt, lt, lo, rk2, ad2, vl, bg, cm, sp2, gd2, rf2, ct2, rd, sm2, js2, sn2, wl2) = (0, js2.toInt64, n2, wk, sd, bt, lt, lo, rk2, ad2, vl, bg, cm, sp2, gd2, rf2, ct2, rd, sm2, js2, sn2, wl2) := by simp only [f_many, a0, ↓reduceIte]
    have eG : m_many (th, n2, wk2, sd2, bt2, lt2, lo2, ct2, rk2, ad2, sp2, gd2, rf2, sm2, js2, sn2, wl2, vl2, bg2, cm2) = (js2, 0, n2, wk2, sd2, bt2, lt2, lo2, ct2, rk2, ad2, sp2, gd2, rf2, sm2, js2, sn2, wl2, vl2, bg2, cm2) := by simp only [m_many, nn, rfr, rft, isS_eq, inn_eq, o10, o1le, o2le, o0le, o20, a0, g0, ↓reduceIte]
    rw [eF, eG]
    refine ⟨rfl, fun _ => rfl, relC ?_⟩
    exact hp.up
set_option maxHeartbeats 4000000 in
set_option maxRecDepth 100000 in
theorem rel_value {i : Nat} {u : xS} {v : mS} (h : Rel i u v) (hi : i < 100000) (k : Int32) : R3 i (f_value u k) ((m_value v k).1.toInt64, (m_value v k).2) := by
  obtain ⟨n, wk, sd, bt, lt, lo, rk, ad, vl, bg, cm, sp, gd, rf, ct, rd, sm, js, sn, wl⟩ := u
  obtain ⟨th, n2, wk2, sd2, bt2, lt2, lo2, ct2, rk2, ad2, sp2, gd2, rf2, sm2, js2, sn2, wl2, vl2, bg2, cm2⟩ := v
  obtain ⟨⟨e1, e2, e3, e4, e5, e6, e7, e8, e9, e10, e11⟩, hp⟩ := h
  subst e1 e2 e3 e4 e5 e6 e7 e8 e9 e10 e11
  unfold R3
  obtain ⟨h1, h2, h3, ⟨j, hj, h4, h4b⟩, h5, h6⟩ := id hp
  have hg := nn_rd hi hj h4 h4b
  by_cases a1 : k < 0
  · skip
    have eF : f_value (n2, wk, sd, bt, lt, lo, rk2, ad2, vl, bg, cm, sp2, gd2, rf2, ct2, rd, sm2, js2, sn2, wl2) k = (1, 0, n2, wk, sd, bt, lt, lo, rk2, ad2, vl, bg, cm, sp2, gd2, rf2, ct2, rd, sm2, js2, sn2, wl2) := by simp only [f_value, a1, ↓reduceIte]
    have eG : m_value (th, n2, wk2, sd2, bt2, lt2, lo2, ct2, rk2, ad2, sp2, gd2, rf2, sm2, js2, sn2, wl2, vl2, bg2, cm2) k = (0, 1, n2, wk2, sd2, bt2, lt2, lo2, ct2, rk2, ad2, sp2, gd2, rf2, sm2, js2, sn2, wl2, vl2, bg2, cm2) := by simp only [m_value, nn, rfr, rft, isS_eq, inn_eq, o10, o1le, o2le, o0le, o20, a1, ↓reduceIte]
    rw [eF, eG]
    refine ⟨rfl, fun q => absurd (show (1 : Int32) = 0 from q) (by decide), relC ?_⟩
    exact hp.up
  · skip
    by_cases a2 : k < nI n2
    · skip
      by_cases a3 : rd = 0
      · skip
        have g0 := hg.mpr a3
        have eF : f_value (n2, wk, sd, bt, lt, lo, rk2, ad2, vl, bg, cm, sp2, gd2, rf2, ct2, rd, sm2, js2, sn2, wl2) k = (2, 0, n2, wk, sd, bt, lt, lo, rk2, ad2, vl, bg, cm, sp2, gd2, rf2, ct2, rd, sm2, js2, sn2, wl2) := by simp only [f_value, a1, a2, eq_true a3, ↓reduceIte]
        have eG : m_value (th, n2, wk2, sd2, bt2, lt2, lo2, ct2, rk2, ad2, sp2, gd2, rf2, sm2, js2, sn2, wl2, vl2, bg2, cm2) k = (0, 2, n2, wk2, sd2, bt2, lt2, lo2, ct2, rk2, ad2, sp2, gd2, rf2, sm2, js2, sn2, wl2, vl2, bg2, cm2) := by simp only [m_value, nn, rfr, rft, isS_eq, inn_eq, o10, o1le, o2le, o0le, o20, a1, a2, eq_true a3, eq_true g0, ↓reduceIte]
        rw [eF, eG]
        refine ⟨rfl, fun q => absurd (show (2 : Int32) = 0 from q) (by decide), relC ?_⟩
        exact hp.up
      · skip
        have g0 : ¬ gd2 = 0 := fun q => a3 (hg.mp q)
        obtain ⟨p1, p2, p3, p4, p5, p6, p7, p8, p9⟩ := h5 k.toNatClampNeg (in_lt a1 a2 h2)
        have eF : f_value (n2, wk, sd, bt, lt, lo, rk2, ad2, vl, bg, cm, sp2, gd2, rf2, ct2, rd, sm2, js2, sn2, wl2) k = (0, (vl k.toNatClampNeg).toInt64, n2, wk, sd, bt, lt, lo, rk2, ad2, vl, bg, cm, sp2, gd2, rf2, ct2, rd, sm2, js2, sn2, wl2) := by simp only [f_value, a1, a2, a3, ↓reduceIte]
        have eG : m_value (th, n2, wk2, sd2, bt2, lt2, lo2, ct2, rk2, ad2, sp2, gd2, rf2, sm2, js2, sn2, wl2, vl2, bg2, cm2) k = (vl2 k.toNatClampNeg, 0, n2, wk2, sd2, bt2, lt2, lo2, ct2, rk2, ad2, sp2, gd2, rf2, sm2, js2, sn2, wl2, vl2, bg2, cm2) := by simp only [m_value, nn, rfr, rft, isS_eq, inn_eq, o10, o1le, o2le, o0le, o20, a1, a2, a3, g0, ↓reduceIte]
        rw [eF, eG]
        refine ⟨rfl, fun _ => by show (vl k.toNatClampNeg).toInt64 = (vl2 k.toNatClampNeg).toInt64; rw [p6], relC ?_⟩
        exact hp.up
    · skip
      have eF : f_value (n2, wk, sd, bt, lt, lo, rk2, ad2, vl, bg, cm, sp2, gd2, rf2, ct2, rd, sm2, js2, sn2, wl2) k = (1, 0, n2, wk, sd, bt, lt, lo, rk2, ad2, vl, bg, cm, sp2, gd2, rf2, ct2, rd, sm2, js2, sn2, wl2) := by simp only [f_value, a1, a2, ↓reduceIte]
      have eG : m_value (th, n2, wk2, sd2, bt2, lt2, lo2, ct2, rk2, ad2, sp2, gd2, rf2, sm2, js2, sn2, wl2, vl2, bg2, cm2) k = (0, 1, n2, wk2, sd2, bt2, lt2, lo2, ct2, rk2, ad2, sp2, gd2, rf2, sm2, js2, sn2, wl2, vl2, bg2, cm2) := by simp only [m_value, nn, rfr, rft, isS_eq, inn_eq, o10, o1le, o2le, o0le, o20, a1, a2, ↓reduceIte]
      rw [eF, eG]
      refine ⟨rfl, fun q => absurd (show (1 : Int32) = 0 from q) (by decide), relC ?_⟩
      exact hp.up
set_option maxHeartbeats 4000000 in
set_option maxRecDepth 100000 in
theorem rel_begun {i : Nat} {u : xS} {v : mS} (h : Rel i u v) (hi : i < 100000) (k : Int32) : R3 i (f_begun u k) ((m_begun v k).1.toInt64, (m_begun v k).2) := by
  obtain ⟨n, wk, sd, bt, lt, lo, rk, ad, vl, bg, cm, sp, gd, rf, ct, rd, sm, js, sn, wl⟩ := u
  obtain ⟨th, n2, wk2, sd2, bt2, lt2, lo2, ct2, rk2, ad2, sp2, gd2, rf2, sm2, js2, sn2, wl2, vl2, bg2, cm2⟩ := v
  obtain ⟨⟨e1, e2, e3, e4, e5, e6, e7, e8, e9, e10, e11⟩, hp⟩ := h
  subst e1 e2 e3 e4 e5 e6 e7 e8 e9 e10 e11
  unfold R3
  obtain ⟨h1, h2, h3, ⟨j, hj, h4, h4b⟩, h5, h6⟩ := id hp
  have hg := nn_rd hi hj h4 h4b
  by_cases a1 : k < 0
  · skip
    have eF : f_begun (n2, wk, sd, bt, lt, lo, rk2, ad2, vl, bg, cm, sp2, gd2, rf2, ct2, rd, sm2, js2, sn2, wl2) k = (1, 0, n2, wk, sd, bt, lt, lo, rk2, ad2, vl, bg, cm, sp2, gd2, rf2, ct2, rd, sm2, js2, sn2, wl2) := by simp only [f_begun, a1, ↓reduceIte]
    have eG : m_begun (th, n2, wk2, sd2, bt2, lt2, lo2, ct2, rk2, ad2, sp2, gd2, rf2, sm2, js2, sn2, wl2, vl2, bg2, cm2) k = (0, 1, n2, wk2, sd2, bt2, lt2, lo2, ct2, rk2, ad2, sp2, gd2, rf2, sm2, js2, sn2, wl2, vl2, bg2, cm2) := by simp only [m_begun, nn, rfr, rft, isS_eq, inn_eq, o10, o1le, o2le, o0le, o20, a1, ↓reduceIte]
    rw [eF, eG]
    refine ⟨rfl, fun q => absurd (show (1 : Int32) = 0 from q) (by decide), relC ?_⟩
    exact hp.up
  · skip
    by_cases a2 : k < nI n2
    · skip
      by_cases a3 : rd = 0
      · skip
        have g0 := hg.mpr a3
        have eF : f_begun (n2, wk, sd, bt, lt, lo, rk2, ad2, vl, bg, cm, sp2, gd2, rf2, ct2, rd, sm2, js2, sn2, wl2) k = (2, 0, n2, wk, sd, bt, lt, lo, rk2, ad2, vl, bg, cm, sp2, gd2, rf2, ct2, rd, sm2, js2, sn2, wl2) := by simp only [f_begun, a1, a2, eq_true a3, ↓reduceIte]
        have eG : m_begun (th, n2, wk2, sd2, bt2, lt2, lo2, ct2, rk2, ad2, sp2, gd2, rf2, sm2, js2, sn2, wl2, vl2, bg2, cm2) k = (0, 2, n2, wk2, sd2, bt2, lt2, lo2, ct2, rk2, ad2, sp2, gd2, rf2, sm2, js2, sn2, wl2, vl2, bg2, cm2) := by simp only [m_begun, nn, rfr, rft, isS_eq, inn_eq, o10, o1le, o2le, o0le, o20, a1, a2, eq_true a3, eq_true g0, ↓reduceIte]
        rw [eF, eG]
        refine ⟨rfl, fun q => absurd (show (2 : Int32) = 0 from q) (by decide), relC ?_⟩
        exact hp.up
      · skip
        have g0 : ¬ gd2 = 0 := fun q => a3 (hg.mp q)
        obtain ⟨p1, p2, p3, p4, p5, p6, p7, p8, p9⟩ := h5 k.toNatClampNeg (in_lt a1 a2 h2)
        have eF : f_begun (n2, wk, sd, bt, lt, lo, rk2, ad2, vl, bg, cm, sp2, gd2, rf2, ct2, rd, sm2, js2, sn2, wl2) k = (0, (bg k.toNatClampNeg).toInt64, n2, wk, sd, bt, lt, lo, rk2, ad2, vl, bg, cm, sp2, gd2, rf2, ct2, rd, sm2, js2, sn2, wl2) := by simp only [f_begun, a1, a2, a3, ↓reduceIte]
        have eG : m_begun (th, n2, wk2, sd2, bt2, lt2, lo2, ct2, rk2, ad2, sp2, gd2, rf2, sm2, js2, sn2, wl2, vl2, bg2, cm2) k = (bg2 k.toNatClampNeg, 0, n2, wk2, sd2, bt2, lt2, lo2, ct2, rk2, ad2, sp2, gd2, rf2, sm2, js2, sn2, wl2, vl2, bg2, cm2) := by simp only [m_begun, nn, rfr, rft, isS_eq, inn_eq, o10, o1le, o2le, o0le, o20, a1, a2, a3, g0, ↓reduceIte]
        rw [eF, eG]
        refine ⟨rfl, fun _ => by show (bg k.toNatClampNeg).toInt64 = (bg2 k.toNatClampNeg).toInt64; rw [p7], relC ?_⟩
        exact hp.up
    · skip
      have eF : f_begun (n2, wk, sd, bt, lt, lo, rk2, ad2, vl, bg, cm, sp2, gd2, rf2, ct2, rd, sm2, js2, sn2, wl2) k = (1, 0, n2, wk, sd, bt, lt, lo, rk2, ad2, vl, bg, cm, sp2, gd2, rf2, ct2, rd, sm2, js2, sn2, wl2) := by simp only [f_begun, a1, a2, ↓reduceIte]
      have eG : m_begun (th, n2, wk2, sd2, bt2, lt2, lo2, ct2, rk2, ad2, sp2, gd2, rf2, sm2, js2, sn2, wl2, vl2, bg2, cm2) k = (0, 1, n2, wk2, sd2, bt2, lt2, lo2, ct2, rk2, ad2, sp2, gd2, rf2, sm2, js2, sn2, wl2, vl2, bg2, cm2) := by simp only [m_begun, nn, rfr, rft, isS_eq, inn_eq, o10, o1le, o2le, o0le, o20, a1, a2, ↓reduceIte]
      rw [eF, eG]
      refine ⟨rfl, fun q => absurd (show (1 : Int32) = 0 from q) (by decide), relC ?_⟩
      exact hp.up
set_option maxHeartbeats 4000000 in
set_option maxRecDepth 100000 in
theorem rel_chain {i : Nat} {u : xS} {v : mS} (h : Rel i u v) (hi : i < 100000) (k : Int32) (w : Int32) : R3 i (f_chain u k w) ((m_chain v k w).1, (m_chain v k w).2) := by
  obtain ⟨n, wk, sd, bt, lt, lo, rk, ad, vl, bg, cm, sp, gd, rf, ct, rd, sm, js, sn, wl⟩ := u
  obtain ⟨th, n2, wk2, sd2, bt2, lt2, lo2, ct2, rk2, ad2, sp2, gd2, rf2, sm2, js2, sn2, wl2, vl2, bg2, cm2⟩ := v
  obtain ⟨⟨e1, e2, e3, e4, e5, e6, e7, e8, e9, e10, e11⟩, hp⟩ := h
  subst e1 e2 e3 e4 e5 e6 e7 e8 e9 e10 e11
  unfold R3
  obtain ⟨h1, h2, h3, ⟨j, hj, h4, h4b⟩, h5, h6⟩ := id hp
  have hg := nn_rd hi hj h4 h4b
  by_cases a1 : k < 0
  · skip
    have eF : f_chain (n2, wk, sd, bt, lt, lo, rk2, ad2, vl, bg, cm, sp2, gd2, rf2, ct2, rd, sm2, js2, sn2, wl2) k w = (1, 0, n2, wk, sd, bt, lt, lo, rk2, ad2, vl, bg, cm, sp2, gd2, rf2, ct2, rd, sm2, js2, sn2, wl2) := by simp only [f_chain, a1, ↓reduceIte]
    have eG : m_chain (th, n2, wk2, sd2, bt2, lt2, lo2, ct2, rk2, ad2, sp2, gd2, rf2, sm2, js2, sn2, wl2, vl2, bg2, cm2) k w = (0, 1, n2, wk2, sd2, bt2, lt2, lo2, ct2, rk2, ad2, sp2, gd2, rf2, sm2, js2, sn2, wl2, vl2, bg2, cm2) := by simp only [m_chain, nn, rfr, rft, isS_eq, inn_eq, o10, o1le, o2le, o0le, o20, a1, ↓reduceIte]
    rw [eF, eG]
    refine ⟨rfl, fun q => absurd (show (1 : Int32) = 0 from q) (by decide), relC ?_⟩
    exact hp.up
  · skip
    by_cases a2 : k < nI n2
    · skip
      by_cases a3 : w < 0
      · skip
        have eF : f_chain (n2, wk, sd, bt, lt, lo, rk2, ad2, vl, bg, cm, sp2, gd2, rf2, ct2, rd, sm2, js2, sn2, wl2) k w = (1, 0, n2, wk, sd, bt, lt, lo, rk2, ad2, vl, bg, cm, sp2, gd2, rf2, ct2, rd, sm2, js2, sn2, wl2) := by simp only [f_chain, a1, a2, a3, ↓reduceIte]
        have eG : m_chain (th, n2, wk2, sd2, bt2, lt2, lo2, ct2, rk2, ad2, sp2, gd2, rf2, sm2, js2, sn2, wl2, vl2, bg2, cm2) k w = (0, 1, n2, wk2, sd2, bt2, lt2, lo2, ct2, rk2, ad2, sp2, gd2, rf2, sm2, js2, sn2, wl2, vl2, bg2, cm2) := by simp only [m_chain, nn, rfr, rft, isS_eq, inn_eq, o10, o1le, o2le, o0le, o20, a1, a2, a3, ↓reduceIte]
        rw [eF, eG]
        refine ⟨rfl, fun q => absurd (show (1 : Int32) = 0 from q) (by decide), relC ?_⟩
        exact hp.up
      · skip
        by_cases a4 : w ≤ wk k.toNatClampNeg
        · skip
          obtain ⟨p1, p2, p3, p4, p5, p6, p7, p8, p9⟩ := h5 k.toNatClampNeg (in_lt a1 a2 h2)
          have eF : f_chain (n2, wk, sd, bt, lt, lo, rk2, ad2, vl, bg, cm, sp2, gd2, rf2, ct2, rd, sm2, js2, sn2, wl2) k w = (0, chx (sd k.toNatClampNeg) k w.toNatClampNeg, n2, wk, sd, bt, lt, lo, rk2, ad2, vl, bg, cm, sp2, gd2, rf2, ct2, rd, sm2, js2, sn2, wl2) := by simp only [f_chain, a1, a2, a3, a4, ↓reduceIte]
          have eG : m_chain (th, n2, wk2, sd2, bt2, lt2, lo2, ct2, rk2, ad2, sp2, gd2, rf2, sm2, js2, sn2, wl2, vl2, bg2, cm2) k w = (chx (sd k.toNatClampNeg) k w.toNatClampNeg, 0, n2, wk2, sd2, bt2, lt2, lo2, ct2, rk2, ad2, sp2, gd2, rf2, sm2, js2, sn2, wl2, vl2, bg2, cm2) := by simp only [m_chain, nn, rfr, rft, isS_eq, inn_eq, o10, o1le, o2le, o0le, o20, a1, a2, a3, a4, p1, p2, ↓reduceIte]
          rw [eF, eG]
          refine ⟨rfl, fun _ => rfl, relC ?_⟩
          exact hp.up
        · skip
          obtain ⟨p1, p2, p3, p4, p5, p6, p7, p8, p9⟩ := h5 k.toNatClampNeg (in_lt a1 a2 h2)
          have eF : f_chain (n2, wk, sd, bt, lt, lo, rk2, ad2, vl, bg, cm, sp2, gd2, rf2, ct2, rd, sm2, js2, sn2, wl2) k w = (1, 0, n2, wk, sd, bt, lt, lo, rk2, ad2, vl, bg, cm, sp2, gd2, rf2, ct2, rd, sm2, js2, sn2, wl2) := by simp only [f_chain, a1, a2, a3, a4, ↓reduceIte]
          have eG : m_chain (th, n2, wk2, sd2, bt2, lt2, lo2, ct2, rk2, ad2, sp2, gd2, rf2, sm2, js2, sn2, wl2, vl2, bg2, cm2) k w = (0, 1, n2, wk2, sd2, bt2, lt2, lo2, ct2, rk2, ad2, sp2, gd2, rf2, sm2, js2, sn2, wl2, vl2, bg2, cm2) := by simp only [m_chain, nn, rfr, rft, isS_eq, inn_eq, o10, o1le, o2le, o0le, o20, a1, a2, a3, a4, p1, ↓reduceIte]
          rw [eF, eG]
          refine ⟨rfl, fun q => absurd (show (1 : Int32) = 0 from q) (by decide), relC ?_⟩
          exact hp.up
    · skip
      have eF : f_chain (n2, wk, sd, bt, lt, lo, rk2, ad2, vl, bg, cm, sp2, gd2, rf2, ct2, rd, sm2, js2, sn2, wl2) k w = (1, 0, n2, wk, sd, bt, lt, lo, rk2, ad2, vl, bg, cm, sp2, gd2, rf2, ct2, rd, sm2, js2, sn2, wl2) := by simp only [f_chain, a1, a2, ↓reduceIte]
      have eG : m_chain (th, n2, wk2, sd2, bt2, lt2, lo2, ct2, rk2, ad2, sp2, gd2, rf2, sm2, js2, sn2, wl2, vl2, bg2, cm2) k w = (0, 1, n2, wk2, sd2, bt2, lt2, lo2, ct2, rk2, ad2, sp2, gd2, rf2, sm2, js2, sn2, wl2, vl2, bg2, cm2) := by simp only [m_chain, nn, rfr, rft, isS_eq, inn_eq, o10, o1le, o2le, o0le, o20, a1, a2, ↓reduceIte]
      rw [eF, eG]
      refine ⟨rfl, fun q => absurd (show (1 : Int32) = 0 from q) (by decide), relC ?_⟩
      exact hp.up
set_option maxHeartbeats 4000000 in
set_option maxRecDepth 100000 in
theorem rel_came {i : Nat} {u : xS} {v : mS} (h : Rel i u v) (hi : i < 100000) (k : Int32) : R3 i (f_came u k) ((m_came v k).1.toInt64, (m_came v k).2) := by
  obtain ⟨n, wk, sd, bt, lt, lo, rk, ad, vl, bg, cm, sp, gd, rf, ct, rd, sm, js, sn, wl⟩ := u
  obtain ⟨th, n2, wk2, sd2, bt2, lt2, lo2, ct2, rk2, ad2, sp2, gd2, rf2, sm2, js2, sn2, wl2, vl2, bg2, cm2⟩ := v
  obtain ⟨⟨e1, e2, e3, e4, e5, e6, e7, e8, e9, e10, e11⟩, hp⟩ := h
  subst e1 e2 e3 e4 e5 e6 e7 e8 e9 e10 e11
  unfold R3
  obtain ⟨h1, h2, h3, ⟨j, hj, h4, h4b⟩, h5, h6⟩ := id hp
  have hg := nn_rd hi hj h4 h4b
  by_cases a1 : k < 0
  · skip
    have eF : f_came (n2, wk, sd, bt, lt, lo, rk2, ad2, vl, bg, cm, sp2, gd2, rf2, ct2, rd, sm2, js2, sn2, wl2) k = (1, 0, n2, wk, sd, bt, lt, lo, rk2, ad2, vl, bg, cm, sp2, gd2, rf2, ct2, rd, sm2, js2, sn2, wl2) := by simp only [f_came, a1, ↓reduceIte]
    have eG : m_came (th, n2, wk2, sd2, bt2, lt2, lo2, ct2, rk2, ad2, sp2, gd2, rf2, sm2, js2, sn2, wl2, vl2, bg2, cm2) k = (0, 1, n2, wk2, sd2, bt2, lt2, lo2, ct2, rk2, ad2, sp2, gd2, rf2, sm2, js2, sn2, wl2, vl2, bg2, cm2) := by simp only [m_came, nn, rfr, rft, isS_eq, inn_eq, o10, o1le, o2le, o0le, o20, a1, ↓reduceIte]
    rw [eF, eG]
    refine ⟨rfl, fun q => absurd (show (1 : Int32) = 0 from q) (by decide), relC ?_⟩
    exact hp.up
  · skip
    by_cases a2 : k < nI ct2
    · skip
      by_cases a3 : rd = 0
      · skip
        have g0 := hg.mpr a3
        have b2 := (le_pred a1 h3).mp a2
        have eF : f_came (n2, wk, sd, bt, lt, lo, rk2, ad2, vl, bg, cm, sp2, gd2, rf2, ct2, rd, sm2, js2, sn2, wl2) k = (2, 0, n2, wk, sd, bt, lt, lo, rk2, ad2, vl, bg, cm, sp2, gd2, rf2, ct2, rd, sm2, js2, sn2, wl2) := by simp only [f_came, a1, a2, eq_true a3, ↓reduceIte]
        have eG : m_came (th, n2, wk2, sd2, bt2, lt2, lo2, ct2, rk2, ad2, sp2, gd2, rf2, sm2, js2, sn2, wl2, vl2, bg2, cm2) k = (0, 2, n2, wk2, sd2, bt2, lt2, lo2, ct2, rk2, ad2, sp2, gd2, rf2, sm2, js2, sn2, wl2, vl2, bg2, cm2) := by simp only [m_came, nn, rfr, rft, isS_eq, inn_eq, o10, o1le, o2le, o0le, o20, a1, a2, eq_true a3, eq_true g0, b2, ↓reduceIte]
        rw [eF, eG]
        refine ⟨rfl, fun q => absurd (show (2 : Int32) = 0 from q) (by decide), relC ?_⟩
        exact hp.up
      · skip
        have g0 : ¬ gd2 = 0 := fun q => a3 (hg.mp q)
        have b2 := (le_pred a1 h3).mp a2
        have hk : k.toNatClampNeg < ct2 := in_lt a1 a2 (by omega)
        have p6 := h6 a3 k.toNatClampNeg (by omega)
        have eF : f_came (n2, wk, sd, bt, lt, lo, rk2, ad2, vl, bg, cm, sp2, gd2, rf2, ct2, rd, sm2, js2, sn2, wl2) k = (0, (cm k.toNatClampNeg).toInt64, n2, wk, sd, bt, lt, lo, rk2, ad2, vl, bg, cm, sp2, gd2, rf2, ct2, rd, sm2, js2, sn2, wl2) := by simp only [f_came, a1, a2, a3, ↓reduceIte]
        have eG : m_came (th, n2, wk2, sd2, bt2, lt2, lo2, ct2, rk2, ad2, sp2, gd2, rf2, sm2, js2, sn2, wl2, vl2, bg2, cm2) k = (cm2 k.toNatClampNeg, 0, n2, wk2, sd2, bt2, lt2, lo2, ct2, rk2, ad2, sp2, gd2, rf2, sm2, js2, sn2, wl2, vl2, bg2, cm2) := by simp only [m_came, nn, rfr, rft, isS_eq, inn_eq, o10, o1le, o2le, o0le, o20, a1, a2, a3, g0, b2, ↓reduceIte]
        rw [eF, eG]
        refine ⟨rfl, fun _ => by show (cm k.toNatClampNeg).toInt64 = (cm2 k.toNatClampNeg).toInt64; rw [p6], relC ?_⟩
        exact hp.up
    · skip
      have b2 : ¬ k ≤ nI ct2 - 1 := fun q => a2 ((le_pred a1 h3).mpr q)
      have eF : f_came (n2, wk, sd, bt, lt, lo, rk2, ad2, vl, bg, cm, sp2, gd2, rf2, ct2, rd, sm2, js2, sn2, wl2) k = (1, 0, n2, wk, sd, bt, lt, lo, rk2, ad2, vl, bg, cm, sp2, gd2, rf2, ct2, rd, sm2, js2, sn2, wl2) := by simp only [f_came, a1, a2, ↓reduceIte]
      have eG : m_came (th, n2, wk2, sd2, bt2, lt2, lo2, ct2, rk2, ad2, sp2, gd2, rf2, sm2, js2, sn2, wl2, vl2, bg2, cm2) k = (0, 1, n2, wk2, sd2, bt2, lt2, lo2, ct2, rk2, ad2, sp2, gd2, rf2, sm2, js2, sn2, wl2, vl2, bg2, cm2) := by simp only [m_came, nn, rfr, rft, isS_eq, inn_eq, o10, o1le, o2le, o0le, o20, a1, a2, b2, ↓reduceIte]
      rw [eF, eG]
      refine ⟨rfl, fun q => absurd (show (1 : Int32) = 0 from q) (by decide), relC ?_⟩
      exact hp.up
set_option maxHeartbeats 4000000 in
set_option maxRecDepth 100000 in
theorem rel_steps {i : Nat} {u : xS} {v : mS} (h : Rel i u v) (hi : i < 100000) (k : Int32) : R3 i (f_steps u k) ((m_steps v k).1.toInt64, (m_steps v k).2) := by
  obtain ⟨n, wk, sd, bt, lt, lo, rk, ad, vl, bg, cm, sp, gd, rf, ct, rd, sm, js, sn, wl⟩ := u
  obtain ⟨th, n2, wk2, sd2, bt2, lt2, lo2, ct2, rk2, ad2, sp2, gd2, rf2, sm2, js2, sn2, wl2, vl2, bg2, cm2⟩ := v
  obtain ⟨⟨e1, e2, e3, e4, e5, e6, e7, e8, e9, e10, e11⟩, hp⟩ := h
  subst e1 e2 e3 e4 e5 e6 e7 e8 e9 e10 e11
  unfold R3
  obtain ⟨h1, h2, h3, ⟨j, hj, h4, h4b⟩, h5, h6⟩ := id hp
  have hg := nn_rd hi hj h4 h4b
  by_cases a1 : k < 0
  · skip
    have eF : f_steps (n2, wk, sd, bt, lt, lo, rk2, ad2, vl, bg, cm, sp2, gd2, rf2, ct2, rd, sm2, js2, sn2, wl2) k = (1, 0, n2, wk, sd, bt, lt, lo, rk2, ad2, vl, bg, cm, sp2, gd2, rf2, ct2, rd, sm2, js2, sn2, wl2) := by simp only [f_steps, a1, ↓reduceIte]
    have eG : m_steps (th, n2, wk2, sd2, bt2, lt2, lo2, ct2, rk2, ad2, sp2, gd2, rf2, sm2, js2, sn2, wl2, vl2, bg2, cm2) k = (0, 1, n2, wk2, sd2, bt2, lt2, lo2, ct2, rk2, ad2, sp2, gd2, rf2, sm2, js2, sn2, wl2, vl2, bg2, cm2) := by simp only [m_steps, nn, rfr, rft, isS_eq, inn_eq, o10, o1le, o2le, o0le, o20, a1, ↓reduceIte]
    rw [eF, eG]
    refine ⟨rfl, fun q => absurd (show (1 : Int32) = 0 from q) (by decide), relC ?_⟩
    exact hp.up
  · skip
    by_cases a2 : k ≤ 1
    · skip
      by_cases a3 : rd = 0
      · skip
        have g0 := hg.mpr a3
        have eF : f_steps (n2, wk, sd, bt, lt, lo, rk2, ad2, vl, bg, cm, sp2, gd2, rf2, ct2, rd, sm2, js2, sn2, wl2) k = (2, 0, n2, wk, sd, bt, lt, lo, rk2, ad2, vl, bg, cm, sp2, gd2, rf2, ct2, rd, sm2, js2, sn2, wl2) := by simp only [f_steps, a1, a2, eq_true a3, ↓reduceIte]
        have eG : m_steps (th, n2, wk2, sd2, bt2, lt2, lo2, ct2, rk2, ad2, sp2, gd2, rf2, sm2, js2, sn2, wl2, vl2, bg2, cm2) k = (0, 2, n2, wk2, sd2, bt2, lt2, lo2, ct2, rk2, ad2, sp2, gd2, rf2, sm2, js2, sn2, wl2, vl2, bg2, cm2) := by simp only [m_steps, nn, rfr, rft, isS_eq, inn_eq, o10, o1le, o2le, o0le, o20, a1, a2, eq_true a3, eq_true g0, ↓reduceIte]
        rw [eF, eG]
        refine ⟨rfl, fun q => absurd (show (2 : Int32) = 0 from q) (by decide), relC ?_⟩
        exact hp.up
      · skip
        have g0 : ¬ gd2 = 0 := fun q => a3 (hg.mp q)
        by_cases a4 : k = 0
        · skip
          have eF : f_steps (n2, wk, sd, bt, lt, lo, rk2, ad2, vl, bg, cm, sp2, gd2, rf2, ct2, rd, sm2, js2, sn2, wl2) k = (0, sn2.toInt64, n2, wk, sd, bt, lt, lo, rk2, ad2, vl, bg, cm, sp2, gd2, rf2, ct2, rd, sm2, js2, sn2, wl2) := by simp only [f_steps, a1, a2, a3, eq_true a4, ↓reduceIte]
          have eG : m_steps (th, n2, wk2, sd2, bt2, lt2, lo2, ct2, rk2, ad2, sp2, gd2, rf2, sm2, js2, sn2, wl2, vl2, bg2, cm2) k = (sn2, 0, n2, wk2, sd2, bt2, lt2, lo2, ct2, rk2, ad2, sp2, gd2, rf2, sm2, js2, sn2, wl2, vl2, bg2, cm2) := by simp only [m_steps, nn, rfr, rft, isS_eq, inn_eq, o10, o1le, o2le, o0le, o20, a1, a2, a3, eq_true a4, g0, ↓reduceIte]
          rw [eF, eG]
          refine ⟨rfl, fun _ => rfl, relC ?_⟩
          exact hp.up
        · skip
          have eF : f_steps (n2, wk, sd, bt, lt, lo, rk2, ad2, vl, bg, cm, sp2, gd2, rf2, ct2, rd, sm2, js2, sn2, wl2) k = (0, wl2.toInt64, n2, wk, sd, bt, lt, lo, rk2, ad2, vl, bg, cm, sp2, gd2, rf2, ct2, rd, sm2, js2, sn2, wl2) := by simp only [f_steps, a1, a2, a3, a4, ↓reduceIte]
          have eG : m_steps (th, n2, wk2, sd2, bt2, lt2, lo2, ct2, rk2, ad2, sp2, gd2, rf2, sm2, js2, sn2, wl2, vl2, bg2, cm2) k = (wl2, 0, n2, wk2, sd2, bt2, lt2, lo2, ct2, rk2, ad2, sp2, gd2, rf2, sm2, js2, sn2, wl2, vl2, bg2, cm2) := by simp only [m_steps, nn, rfr, rft, isS_eq, inn_eq, o10, o1le, o2le, o0le, o20, a1, a2, a3, a4, g0, ↓reduceIte]
          rw [eF, eG]
          refine ⟨rfl, fun _ => rfl, relC ?_⟩
          exact hp.up
    · skip
      have eF : f_steps (n2, wk, sd, bt, lt, lo, rk2, ad2, vl, bg, cm, sp2, gd2, rf2, ct2, rd, sm2, js2, sn2, wl2) k = (1, 0, n2, wk, sd, bt, lt, lo, rk2, ad2, vl, bg, cm, sp2, gd2, rf2, ct2, rd, sm2, js2, sn2, wl2) := by simp only [f_steps, a1, a2, ↓reduceIte]
      have eG : m_steps (th, n2, wk2, sd2, bt2, lt2, lo2, ct2, rk2, ad2, sp2, gd2, rf2, sm2, js2, sn2, wl2, vl2, bg2, cm2) k = (0, 1, n2, wk2, sd2, bt2, lt2, lo2, ct2, rk2, ad2, sp2, gd2, rf2, sm2, js2, sn2, wl2, vl2, bg2, cm2) := by simp only [m_steps, nn, rfr, rft, isS_eq, inn_eq, o10, o1le, o2le, o0le, o20, a1, a2, ↓reduceIte]
      rw [eF, eG]
      refine ⟨rfl, fun q => absurd (show (1 : Int32) = 0 from q) (by decide), relC ?_⟩
      exact hp.up
set_option maxHeartbeats 4000000 in
set_option maxRecDepth 100000 in
theorem rel_count {i : Nat} {u : xS} {v : mS} (h : Rel i u v) (hi : i < 100000) (k : Int32) : R3 i (f_count u k) ((m_count v k).1.toInt64, (m_count v k).2) := by
  obtain ⟨n, wk, sd, bt, lt, lo, rk, ad, vl, bg, cm, sp, gd, rf, ct, rd, sm, js, sn, wl⟩ := u
  obtain ⟨th, n2, wk2, sd2, bt2, lt2, lo2, ct2, rk2, ad2, sp2, gd2, rf2, sm2, js2, sn2, wl2, vl2, bg2, cm2⟩ := v
  obtain ⟨⟨e1, e2, e3, e4, e5, e6, e7, e8, e9, e10, e11⟩, hp⟩ := h
  subst e1 e2 e3 e4 e5 e6 e7 e8 e9 e10 e11
  unfold R3
  obtain ⟨h1, h2, h3, ⟨j, hj, h4, h4b⟩, h5, h6⟩ := id hp
  have hg := nn_rd hi hj h4 h4b
  by_cases b0 : k = 0
  · skip
    rw [b0]
    exact ⟨rfl, fun _ => rfl, relC hp.up⟩
  · skip
    by_cases b1 : k = 1
    · skip
      rw [b1]
      exact ⟨rfl, fun _ => rfl, relC hp.up⟩
    · skip
      by_cases b2 : k = 2
      · skip
        rw [b2]
        exact ⟨rfl, fun _ => rfl, relC hp.up⟩
      · skip
        by_cases b3 : k = 3
        · skip
          rw [b3]
          exact ⟨rfl, fun _ => rfl, relC hp.up⟩
        · skip
          rcases out4 b0 b1 b2 b3 with c0 | ⟨c0, c1⟩
          · skip
            have eF : f_count (n2, wk, sd, bt, lt, lo, rk2, ad2, vl, bg, cm, sp2, gd2, rf2, ct2, rd, sm2, js2, sn2, wl2) k = (1, 0, n2, wk, sd, bt, lt, lo, rk2, ad2, vl, bg, cm, sp2, gd2, rf2, ct2, rd, sm2, js2, sn2, wl2) := by simp only [f_count, b0, b1, b2, b3, ↓reduceIte]
            have eG : m_count (th, n2, wk2, sd2, bt2, lt2, lo2, ct2, rk2, ad2, sp2, gd2, rf2, sm2, js2, sn2, wl2, vl2, bg2, cm2) k = (0, 1, n2, wk2, sd2, bt2, lt2, lo2, ct2, rk2, ad2, sp2, gd2, rf2, sm2, js2, sn2, wl2, vl2, bg2, cm2) := by simp only [m_count, nn, rfr, rft, isS_eq, inn_eq, o10, o1le, o2le, o0le, o20, b0, b1, b2, b3, c0, ↓reduceIte]
            rw [eF, eG]
            refine ⟨rfl, fun q => absurd (show (1 : Int32) = 0 from q) (by decide), relC ?_⟩
            exact hp.up
          · skip
            have eF : f_count (n2, wk, sd, bt, lt, lo, rk2, ad2, vl, bg, cm, sp2, gd2, rf2, ct2, rd, sm2, js2, sn2, wl2) k = (1, 0, n2, wk, sd, bt, lt, lo, rk2, ad2, vl, bg, cm, sp2, gd2, rf2, ct2, rd, sm2, js2, sn2, wl2) := by simp only [f_count, b0, b1, b2, b3, ↓reduceIte]
            have eG : m_count (th, n2, wk2, sd2, bt2, lt2, lo2, ct2, rk2, ad2, sp2, gd2, rf2, sm2, js2, sn2, wl2, vl2, bg2, cm2) k = (0, 1, n2, wk2, sd2, bt2, lt2, lo2, ct2, rk2, ad2, sp2, gd2, rf2, sm2, js2, sn2, wl2, vl2, bg2, cm2) := by simp only [m_count, nn, rfr, rft, isS_eq, inn_eq, o10, o1le, o2le, o0le, o20, b0, b1, b2, b3, c0, c1, ↓reduceIte]
            rw [eF, eG]
            refine ⟨rfl, fun q => absurd (show (1 : Int32) = 0 from q) (by decide), relC ?_⟩
            exact hp.up
set_option maxHeartbeats 4000000 in
set_option maxRecDepth 100000 in
theorem rel_run {i : Nat} {u : xS} {v : mS} (h : Rel i u v) (hi : i < 100000) (w : Int32) (y : Int32) : R3 i (f_run u w y) ((m_run v w y).1.toInt64, (m_run v w y).2) := by
  obtain ⟨n, wk, sd, bt, lt, lo, rk, ad, vl, bg, cm, sp, gd, rf, ct, rd, sm, js, sn, wl⟩ := u
  obtain ⟨th, n2, wk2, sd2, bt2, lt2, lo2, ct2, rk2, ad2, sp2, gd2, rf2, sm2, js2, sn2, wl2, vl2, bg2, cm2⟩ := v
  obtain ⟨⟨e1, e2, e3, e4, e5, e6, e7, e8, e9, e10, e11⟩, hp⟩ := h
  subst e1 e2 e3 e4 e5 e6 e7 e8 e9 e10 e11
  unfold R3
  obtain ⟨h1, h2, h3, ⟨j, hj, h4, h4b⟩, h5, h6⟩ := id hp
  have hg := nn_rd hi hj h4 h4b
  have hs : sumL lo2 n2 = sumL lo n2 := sumL_eq n2 (fun k hk => (h5 k hk).2.2.2.1)
  obtain ⟨S, hSl, hS⟩ := sumL_le n2 (fun k hk => (h5 k hk).2.2.2.2.2.2.2.2)
  have hw9 : sumL (fun j => swm wk2 lt2 lo2 j) n2 = sumL (fun j => swl wk lt lo (nI j)) n2 := sumL_eq n2 (fun k hk => (sw_eq (by omega) (h5 k hk).1 (h5 k hk).2.2.2.1 (h5 k hk).2.2.2.2.1).symm)
  have hv : ∀ k, k < n2 → fil (fun j => vl9 (chx (sd2 j) (nI j) (wk2 j).toNatClampNeg)) vl2 n2 k = fil (fun j => lastV wk sd (nI j)) vl n2 k := fun k hk => by
    rw [fil_in _ _ n2 k hk, fil_in _ _ n2 k hk, (h5 k hk).1, (h5 k hk).2.1]
    show _ = vl9 (chx (sd (nI k).toNatClampNeg) (nI k) (wk (nI k).toNatClampNeg).toNatClampNeg)
    rw [nI_clamp (by omega)]
  by_cases a1 : w < 1
  · skip
    have eF : f_run (n2, wk, sd, bt, lt, lo, rk2, ad2, vl, bg, cm, sp2, gd2, rf2, ct2, rd, sm2, js2, sn2, wl2) w y = (1, 0, n2, wk, sd, bt, lt, lo, rk2, ad2, vl, bg, cm, sp2, gd2, rf2, ct2, rd, sm2, js2, sn2, wl2) := by simp only [f_run, a1, ↓reduceIte]
    have eG : m_run (th, n2, wk2, sd2, bt2, lt2, lo2, ct2, rk2, ad2, sp2, gd2, rf2, sm2, js2, sn2, wl2, vl2, bg2, cm2) w y = (0, 1, n2, wk2, sd2, bt2, lt2, lo2, ct2, rk2, ad2, sp2, gd2, rf2, sm2, js2, sn2, wl2, vl2, bg2, cm2) := by simp only [m_run, nn, rfr, rft, isS_eq, inn_eq, o10, o1le, o2le, o0le, o20, a1, ↓reduceIte]
    rw [eF, eG]
    refine ⟨rfl, fun q => absurd (show (1 : Int32) = 0 from q) (by decide), relC ?_⟩
    exact hp.up
  · skip
    by_cases a2 : w ≤ 6
    · skip
      by_cases a3 : 1 ≤ w - sumL lo n2
      · skip
        have b3 : sumL lo2 n2 < w := by rw [hs, hS]; exact (left_iff a1 a2 (by omega)).mp (by rw [← hS]; exact a3)
        have b4 : sumL lo n2 < w := by rw [← hs]; exact b3
        obtain ⟨r, s9, c9, d9, j9, i1, i2, i3⟩ := jn_eq (bt := bt) (bt2 := bt2) (rk := rk2) (ad := ad2) (vl := fil (fun j => lastV wk sd (nI j)) vl n2) (vl2 := fil (fun j => vl9 (chx (sd2 j) (nI j) (wk2 j).toNatClampNeg)) vl2 n2) (m := fil (fun _ => (-1)) cm 24) (m2 := fil (fun _ => (-1)) cm2 24) (ct := ct2) (n := n2) (z := sp2) (fun k hk => ⟨(h5 k hk).2.2.1, hv k hk, (h5 k hk).2.2.2.2.2.2.2.1, by rw [fil_in _ _ n2 k hk]; exact vl9_nn _⟩) (fun k hk => by rw [fil_in _ _ 24 k hk, fil_in _ _ 24 k hk]) n2 0 (by omega)
        have eF : f_run (n2, wk, sd, bt, lt, lo, rk2, ad2, vl, bg, cm, sp2, gd2, rf2, ct2, rd, sm2, js2, sn2, wl2) w y = (0, r.toInt64, n2, wk, sd, bt, lt, lo, rk2, ad2, fil (fun j => lastV wk sd (nI j)) vl n2, fil (fun j => lo j + 1) bg n2, c9, sp2, gd2 + 1, rf2, ct2, 1, s9, nI j9, sumL (fun j => swl wk lt lo (nI j)) n2, w - sumL lo n2) := by simp only [f_run, a1, a2, a3, i1, ↓reduceIte]
        have eG : m_run (th, n2, wk2, sd2, bt2, lt2, lo2, ct2, rk2, ad2, sp2, gd2, rf2, sm2, js2, sn2, wl2, vl2, bg2, cm2) w y = (r, 0, n2, wk2, sd2, bt2, lt2, lo2, ct2, rk2, ad2, sp2, gd2 + 1, rf2, s9, nI j9, sumL (fun j => swl wk lt lo (nI j)) n2, w - sumL lo n2, fil (fun j => vl9 (chx (sd2 j) (nI j) (wk2 j).toNatClampNeg)) vl2 n2, fil (fun j => 1 + lo2 j) bg2 n2, d9) := by simp only [m_run, isS_eq, inn_eq, o10, o1le, o2le, o0le, o20, a1, a2, b4, i2, hs, hw9, ↓reduceIte]
        rw [eF, eG]
        refine ⟨rfl, fun _ => rfl, relC ?_⟩
        refine ⟨h1, h2, h3, ⟨j + 1, by omega, by rw [h4, nI_1], by rw [if_neg (by omega)]⟩, fun k hk => ?_, fun _ k hk => i3 k hk⟩
        obtain ⟨q1, q2, q3, q4, q5, q6, q7, q8, q9⟩ := h5 k hk
        refine ⟨q1, q2, q3, q4, q5, hv k hk, ?_, q8, q9⟩
        rw [fil_in _ _ n2 k hk, fil_in _ _ n2 k hk, q4, Int32.add_comm]
      · skip
        have b3 : ¬ sumL lo2 n2 < w := fun q => a3 (by rw [hS]; exact (left_iff a1 a2 (by omega)).mpr (by rw [← hS, ← hs]; exact q))
        have eF : f_run (n2, wk, sd, bt, lt, lo, rk2, ad2, vl, bg, cm, sp2, gd2, rf2, ct2, rd, sm2, js2, sn2, wl2) w y = (0, (-2 : Int32).toInt64, n2, wk, sd, bt, lt, lo, rk2, ad2, vl, bg, cm, sp2, gd2, rf2 + 1, ct2, rd, sm2, js2, sn2, wl2) := by simp only [f_run, a1, a2, a3, ↓reduceIte]
        have eG : m_run (th, n2, wk2, sd2, bt2, lt2, lo2, ct2, rk2, ad2, sp2, gd2, rf2, sm2, js2, sn2, wl2, vl2, bg2, cm2) w y = (-2, 0, n2, wk2, sd2, bt2, lt2, lo2, ct2, rk2, ad2, sp2, gd2, rf2 + 1, sm2, js2, sn2, wl2, vl2, bg2, cm2) := by simp only [m_run, nn, rfr, rft, isS_eq, inn_eq, o10, o1le, o2le, o0le, o20, a1, a2, a3, b3, ↓reduceIte]
        rw [eF, eG]
        refine ⟨rfl, fun _ => rfl, relC ?_⟩
        exact hp.up
    · skip
      have eF : f_run (n2, wk, sd, bt, lt, lo, rk2, ad2, vl, bg, cm, sp2, gd2, rf2, ct2, rd, sm2, js2, sn2, wl2) w y = (1, 0, n2, wk, sd, bt, lt, lo, rk2, ad2, vl, bg, cm, sp2, gd2, rf2, ct2, rd, sm2, js2, sn2, wl2) := by simp only [f_run, a1, a2, ↓reduceIte]
      have eG : m_run (th, n2, wk2, sd2, bt2, lt2, lo2, ct2, rk2, ad2, sp2, gd2, rf2, sm2, js2, sn2, wl2, vl2, bg2, cm2) w y = (0, 1, n2, wk2, sd2, bt2, lt2, lo2, ct2, rk2, ad2, sp2, gd2, rf2, sm2, js2, sn2, wl2, vl2, bg2, cm2) := by simp only [m_run, nn, rfr, rft, isS_eq, inn_eq, o10, o1le, o2le, o0le, o20, a1, a2, ↓reduceIte]
      rw [eF, eG]
      refine ⟨rfl, fun q => absurd (show (1 : Int32) = 0 from q) (by decide), relC ?_⟩
      exact hp.up

