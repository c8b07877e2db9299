/-! ===== the reference: its state, what its methods work out ===== -/
abbrev mS : Type := Int32 × Nat × (Nat → Int32) × (Nat → Int32) × (Nat → Int32) × (Nat → Int32) × (Nat → Int32) × Nat × (Nat → Int32) × (Nat → Int32) × Int32 × Int32 × Int32 × Int64 × Int32 × Int32 × Int32 × (Nat → Int32) × (Nat → Int32) × (Nat → Int32)
/-- the reference's eleven cells -/
abbrev wM (c0 : ClassId) (a : Nat → Nat) (u : mS) : va_W := match u with
  | (th, n, wk, sd, bt, lt, lo, ct, rk, ad, sp, gd, rf, sm, js, sn, wl, vl, bg, cm) => [
    (a 0, .inr (4, [.int th, .int (nI n), .ref (a 1), .ref (a 2), .ref (a 3), .ref (a 4), .ref (a 5), .int (nI ct), .ref (a 6), .ref (a 7), .int sp, .int gd, .int rf, .long sm, .int js, .int sn, .int wl, .ref (a 8), .ref (a 9), .ref (a 10)])),
    (a 1, .inl (c0, 40, .inl wk)),
    (a 2, .inl (c0, 40, .inl sd)),
    (a 3, .inl (c0, 40, .inl bt)),
    (a 4, .inl (c0, 40, .inl lt)),
    (a 5, .inl (c0, 40, .inl lo)),
    (a 6, .inl (c0, 24, .inl rk)),
    (a 7, .inl (c0, 24, .inl ad)),
    (a 8, .inl (c0, 40, .inl vl)),
    (a 9, .inl (c0, 40, .inl bg)),
    (a 10, .inl (c0, 24, .inl cm))]
abbrev PM (dC : Nat → ClassId) (dI : Nat → Nat → Nat) (c0 : ClassId) (a : Nat → Nat) (u : mS) (sz : Nat) : State → Prop := fun U => U.heap.size = sz ∧ va_P (dC, dI) vwCl (wM c0 a u) U.heap ∧ va_K (dC, dI) vwCl [(c0, .int)] U ∧ va_D (fun _ => True) (wM c0 a u) ∧ EV (va_A (wM c0 a u) sz) U U.heap
abbrev BM (dC : Nat → ClassId) (dI : Nat → Nat → Nat) (c0 : ClassId) (a : Nat → Nat) (A : Nat → Prop) (u : mS) (t : State) : Prop := va_P (dC, dI) vwCl (wM c0 a u) t.heap ∧ va_K (dC, dI) vwCl [(c0, .int)] t ∧ va_D A (wM c0 a u)
theorem PM_blind {dC : Nat → ClassId} {dI : Nat → Nat → Nat} {c0 : ClassId} {a : Nat → Nat} {u : mS} {sz : Nat} {av : List Value} : FrameBlind (va_Pc av (PM dC dI c0 a u sz)) := fun a U g mk q => by
  obtain ⟨q0, q1, q2, q3, q4, q5⟩ := q
  exact ⟨q0, q1, q2, va_K.moved (u := U) (U := U.calling g mk a) (Vm.Alike.refl U.vm) q3, q4, q5.calling g mk a⟩
theorem PM_give {dC : Nat → ClassId} {dI : Nat → Nat → Nat} {c0 : ClassId} {a : Nat → Nat} {u : mS} {s : State} {H : Heap} {A : Nat → Prop} {locs : List Loc} {av : List Value} (hP : va_P (dC, dI) vwCl (wM c0 a u) H) (hK : va_K (dC, dI) vwCl [(c0, .int)] s) (hD : va_D A (wM c0 a u)) (hE : EV A s s.heap) (hS : va_S A s.heap H locs) (hF : ∀ q, va_A (wM c0 a u) H.size q → A q) : ∀ U : State, U.heap = H → s.WarmedH U.vm → va_Pc av (PM dC dI c0 a u H.size) av.toArray U := fun U hU hW =>
  ⟨rfl, by rw [hU], by rw [hU]; exact hP, va_K.moved hW.alike hK, hD.weaken (fun _ _ _ _ => trivial), hE.give hS hF hU hW⟩
theorem PM_take {dC : Nat → ClassId} {dI : Nat → Nat → Nat} {c0 : ClassId} {a : Nat → Nat} {u : mS} {t : State} {H1 : Heap} {A B : Nat → Prop} (ht : t.heap = H1) (hF : ∀ q, B q → A q) (hB : BM dC dI c0 a B u t) : va_P (dC, dI) vwCl (wM c0 a u) H1 ∧ va_D A (wM c0 a u) := by
  obtain ⟨h1, -, h3⟩ := hB
  rw [ht] at h1
  exact ⟨h1, h3.weaken (fun _ q _ h => hF q.1 h)⟩
def isS (n : Nat) (k : Int32) : Int32 := if k < 0 then 0 else if nI n ≤ k then 0 else 1
def inn (v x y : Int32) : Int32 := if v < x then 0 else if y < v then 0 else 1
def nn (gd : Int32) : Int32 := if gd = 0 then 1 else 0
def rft (b gd : Int32) : Int32 := if b = 0 then 1 else if gd = 0 then 2 else 0
def rfr (b gd : Int32) : Int32 := if rft b gd ≤ 0 then 0 else 1
def stm (b v : Int32) : Int32 := if b ≤ 0 then 0 else if v - v / (1 <<< (b &&& 31)) * (1 <<< (b &&& 31)) = 0 then 1 else 0
def swm (wk lt lo : Nat → Int32) (j : Nat) : Int32 := wk j + (lo j * (if wk j ≤ lt j then wk j else lt j))
def jnM (bt rk ad vl m0 : Nat → Int32) (ct n : Nat) (z : Int32) : Nat → Nat → Int32 × Int64 × (Nat → Int32) × Nat
  | 0, k => (-1, linS rk ad (nI n) (jnS rk ad vl ct k) ct, linC rk (nI n) (jnC rk ct m0 k) ct, k)
  | f + 1, k => if nI k = z then (-1, jnS rk ad vl ct k, jnC rk ct m0 k, k) else if stm (bt k) (vl k) = 0 then jnM bt rk ad vl m0 ct n z f (k + 1) else (nI k, jnS rk ad vl ct (k + 1), jnC rk ct m0 (k + 1), k + 1)
theorem isS_in {n : Nat} {k : Int32} (h : ¬ isS n k = 0) (hn : n < 2 ^ 31) : vp_in k n := by
  unfold isS at h
  by_cases h1 : k < 0
  · rw [if_pos h1] at h; exact absurd rfl h
  · rw [if_neg h1] at h
    by_cases h2 : nI n ≤ k
    · rw [if_pos h2] at h; exact absurd rfl h
    · exact in_of h1 (Int32.not_le.mp h2) hn
theorem rfr_b {b gd : Int32} (h : rfr b gd = 0) : ¬ b = 0 := by
  intro e
  unfold rfr rft at h
  rw [if_pos e] at h
  revert h
  decide
theorem rfr_in {n : Nat} {k gd : Int32} (h : rfr (isS n k) gd = 0) (hn : n < 2 ^ 31) : vp_in k n := isS_in (rfr_b h) hn
theorem nI_m1 {c : Nat} (h : 0 < c) : nI c - 1 = nI (c - 1) := by
  obtain ⟨d, rfl⟩ : ∃ d, c = d + 1 := ⟨c - 1, by omega⟩
  rw [nI_pred]; rfl
theorem rfi_in {c : Nat} {k gd : Int32} (h : rfr (inn k 0 (nI c - 1)) gd = 0) (hc : c < 2 ^ 31) : vp_in k c := by
  have h := rfr_b h
  unfold inn at h
  by_cases h1 : k < 0
  · rw [if_pos h1] at h; exact absurd rfl h
  · rw [if_neg h1] at h
    by_cases h2 : nI c - 1 < k
    · rw [if_pos h2] at h; exact absurd rfl h
    · obtain ⟨j, hj, rfl⟩ := nI_of h1
      rcases Nat.eq_zero_or_pos c with rfl | hc0
      · exfalso
        apply h2
        rw [nI_0]
        have e : ((0 : Int32) - 1).toInt = -1 := by decide
        rw [Int32.lt_iff_toInt_lt, e, nI_toInt hj]; omega
      · rw [nI_m1 hc0] at h2
        have : ¬ c - 1 < j := fun q => h2 (nI_lt q hj)
        exact vp_in_nI (by omega) hc
theorem ct_ne {c : Nat} (h : c ≤ 24) (h2 : ¬ nI c = 24) : c < 24 := by
  rcases Nat.lt_or_ge c 24 with q | q
  · exact q
  · exact absurd (by rw [show c = 24 by omega]; rfl) h2
theorem sh_all : ∀ j : Fin 32, ¬ (1 : Int32) <<< (nI j.val) = 0 := by decide +kernel
theorem sh_ne (b : Int32) : ¬ (1 : Int32) <<< (b &&& 31) = 0 := by
  obtain ⟨j, hj, e⟩ := pk_andE b (m := 31) 5 (by decide)
  rw [e]
  exact sh_all ⟨j, hj⟩
/-! the reference's face: (the answer, the state behind it) -/
def m_share (u : mS) (k w x b : Int32) : Int32 × mS := match u with
  | (th, n, wk, sd, bt, lt, lo, ct, rk, ad, sp, gd, rf, sm, js, sn, wl, vl, bg, cm) => if isS n k = 0 then (0, (1, n, wk, sd, bt, lt, lo, ct, rk, ad, sp, gd, rf, sm, js, sn, wl, vl, bg, cm)) else if inn w 1 30 = 0 then (0, (2, n, wk, sd, bt, lt, lo, ct, rk, ad, sp, gd, rf, sm, js, sn, wl, vl, bg, cm)) else if inn b 0 8 = 0 then (0, (2, n, wk, sd, bt, lt, lo, ct, rk, ad, sp, gd, rf, sm, js, sn, wl, vl, bg, cm)) else (wk k.toNatClampNeg, (0, n, upd wk k.toNatClampNeg w, upd sd k.toNatClampNeg x, upd bt k.toNatClampNeg b, lt, lo, ct, rk, ad, sp, gd, rf, sm, js, sn, wl, vl, bg, cm))
def m_fails (u : mS) (k w x : Int32) : Int32 × mS := match u with
  | (th, n, wk, sd, bt, lt, lo, ct, rk, ad, sp, gd, rf, sm, js, sn, wl, vl, bg, cm) => if isS n k = 0 then (0, (1, n, wk, sd, bt, lt, lo, ct, rk, ad, sp, gd, rf, sm, js, sn, wl, vl, bg, cm)) else if inn w 1 30 = 0 then (0, (2, n, wk, sd, bt, lt, lo, ct, rk, ad, sp, gd, rf, sm, js, sn, wl, vl, bg, cm)) else if inn x 0 4 = 0 then (0, (2, n, wk, sd, bt, lt, lo, ct, rk, ad, sp, gd, rf, sm, js, sn, wl, vl, bg, cm)) else (lo k.toNatClampNeg, (0, n, wk, sd, bt, upd lt k.toNatClampNeg w, upd lo k.toNatClampNeg x, ct, rk, ad, sp, gd, rf, sm, js, sn, wl, vl, bg, cm))
def m_act (u : mS) (k v : Int32) : Int32 × mS := match u with
  | (th, n, wk, sd, bt, lt, lo, ct, rk, ad, sp, gd, rf, sm, js, sn, wl, vl, bg, cm) => if inn k 0 (nI n) = 0 then (0, (1, n, wk, sd, bt, lt, lo, ct, rk, ad, sp, gd, rf, sm, js, sn, wl, vl, bg, cm)) else if nI ct = 24 then (0, (2, n, wk, sd, bt, lt, lo, ct, rk, ad, sp, gd, rf, sm, js, sn, wl, vl, bg, cm)) else (nI ct, (0, n, wk, sd, bt, lt, lo, ct + 1, upd rk ct k, upd ad ct v, sp, gd, rf, sm, js, sn, wl, vl, bg, cm))
def m_stop (u : mS) (k : Int32) : Int32 × mS := match u with
  | (th, n, wk, sd, bt, lt, lo, ct, rk, ad, sp, gd, rf, sm, js, sn, wl, vl, bg, cm) => if k = -1 then (sp, (0, n, wk, sd, bt, lt, lo, ct, rk, ad, k, gd, rf, sm, js, sn, wl, vl, bg, cm)) else if isS n k = 0 then (0, (1, n, wk, sd, bt, lt, lo, ct, rk, ad, sp, gd, rf, sm, js, sn, wl, vl, bg, cm)) else (sp, (0, n, wk, sd, bt, lt, lo, ct, rk, ad, k, gd, rf, sm, js, sn, wl, vl, bg, cm))
def m_run (u : mS) (w _y : Int32) : Int32 × mS := match u with
  | (th, n, wk, sd, bt, lt, lo, ct, rk, ad, sp, gd, rf, sm, js, sn, wl, vl, bg, cm) => if inn w 1 6 = 0 then (0, (1, n, wk, sd, bt, lt, lo, ct, rk, ad, sp, gd, rf, sm, js, sn, wl, vl, bg, cm)) else if sumL lo n < w then (match jnM bt rk ad (fil (fun j => vl9 (chx (sd j) (nI j) (wk j).toNatClampNeg)) vl n) (fil (fun _ => (-1)) cm 24) ct n sp n 0 with
      | (r, s9, c9, j9) => (r, (0, n, wk, sd, bt, lt, lo, ct, rk, ad, sp, gd + 1, rf, s9, nI j9, sumL (fun j => swm wk lt lo j) n, w - sumL lo n, fil (fun j => vl9 (chx (sd j) (nI j) (wk j).toNatClampNeg)) vl n, fil (fun j => 1 + lo j) bg n, c9)))
    else (-2, (0, n, wk, sd, bt, lt, lo, ct, rk, ad, sp, gd, rf + 1, sm, js, sn, wl, vl, bg, cm))
def m_joined (u : mS) : Int64 × mS := match u with
  | (th, n, wk, sd, bt, lt, lo, ct, rk, ad, sp, gd, rf, sm, js, sn, wl, vl, bg, cm) => if nn gd = 0 then (sm, (nn gd, n, wk, sd, bt, lt, lo, ct, rk, ad, sp, gd, rf, sm, js, sn, wl, vl, bg, cm)) else (0, (nn gd, n, wk, sd, bt, lt, lo, ct, rk, ad, sp, gd, rf, sm, js, sn, wl, vl, bg, cm))
def m_many (u : mS) : Int32 × mS := match u with
  | (th, n, wk, sd, bt, lt, lo, ct, rk, ad, sp, gd, rf, sm, js, sn, wl, vl, bg, cm) => if nn gd = 0 then (js, (nn gd, n, wk, sd, bt, lt, lo, ct, rk, ad, sp, gd, rf, sm, js, sn, wl, vl, bg, cm)) else (0, (nn gd, n, wk, sd, bt, lt, lo, ct, rk, ad, sp, gd, rf, sm, js, sn, wl, vl, bg, cm))
def m_value (u : mS) (k : Int32) : Int32 × mS := match u with
  | (th, n, wk, sd, bt, lt, lo, ct, rk, ad, sp, gd, rf, sm, js, sn, wl, vl, bg, cm) => if rfr (isS n k) gd = 0 then (vl k.toNatClampNeg, (rft (isS n k) gd, n, wk, sd, bt, lt, lo, ct, rk, ad, sp, gd, rf, sm, js, sn, wl, vl, bg, cm)) else (0, (rft (isS n k) gd, n, wk, sd, bt, lt, lo, ct, rk, ad, sp, gd, rf, sm, js, sn, wl, vl, bg, cm))
def m_chain (u : mS) (k w : Int32) : Int64 × mS := match u with
  | (th, n, wk, sd, bt, lt, lo, ct, rk, ad, sp, gd, rf, sm, js, sn, wl, vl, bg, cm) => if isS n k = 0 then (0, (1, n, wk, sd, bt, lt, lo, ct, rk, ad, sp, gd, rf, sm, js, sn, wl, vl, bg, cm)) else if inn w 0 (wk k.toNatClampNeg) = 0 then (0, (1, n, wk, sd, bt, lt, lo, ct, rk, ad, sp, gd, rf, sm, js, sn, wl, vl, bg, cm)) else (chx (sd k.toNatClampNeg) k w.toNatClampNeg, (0, n, wk, sd, bt, lt, lo, ct, rk, ad, sp, gd, rf, sm, js, sn, wl, vl, bg, cm))
def m_came (u : mS) (k : Int32) : Int32 × mS := match u with
  | (th, n, wk, sd, bt, lt, lo, ct, rk, ad, sp, gd, rf, sm, js, sn, wl, vl, bg, cm) => if rfr (inn k 0 (nI ct - 1)) gd = 0 then (cm k.toNatClampNeg, (rft (inn k 0 (nI ct - 1)) gd, n, wk, sd, bt, lt, lo, ct, rk, ad, sp, gd, rf, sm, js, sn, wl, vl, bg, cm)) else (0, (rft (inn k 0 (nI ct - 1)) gd, n, wk, sd, bt, lt, lo, ct, rk, ad, sp, gd, rf, sm, js, sn, wl, vl, bg, cm))
def m_begun (u : mS) (k : Int32) : Int32 × mS := match u with
  | (th, n, wk, sd, bt, lt, lo, ct, rk, ad, sp, gd, rf, sm, js, sn, wl, vl, bg, cm) => if rfr (isS n k) gd = 0 then (bg k.toNatClampNeg, (rft (isS n k) gd, n, wk, sd, bt, lt, lo, ct, rk, ad, sp, gd, rf, sm, js, sn, wl, vl, bg, cm)) else (0, (rft (isS n k) gd, n, wk, sd, bt, lt, lo, ct, rk, ad, sp, gd, rf, sm, js, sn, wl, vl, bg, cm))
def m_steps (u : mS) (k : Int32) : Int32 × mS := match u with
  | (th, n, wk, sd, bt, lt, lo, ct, rk, ad, sp, gd, rf, sm, js, sn, wl, vl, bg, cm) => if rfr (inn k 0 1) gd = 0 then (if k = 0 then (sn, (rft (inn k 0 1) gd, n, wk, sd, bt, lt, lo, ct, rk, ad, sp, gd, rf, sm, js, sn, wl, vl, bg, cm)) else (wl, (rft (inn k 0 1) gd, n, wk, sd, bt, lt, lo, ct, rk, ad, sp, gd, rf, sm, js, sn, wl, vl, bg, cm))) else (0, (rft (inn k 0 1) gd, n, wk, sd, bt, lt, lo, ct, rk, ad, sp, gd, rf, sm, js, sn, wl, vl, bg, cm))
def m_count (u : mS) (k : Int32) : Int32 × mS := match u with
  | (th, n, wk, sd, bt, lt, lo, ct, rk, ad, sp, gd, rf, sm, js, sn, wl, vl, bg, cm) => if inn k 0 3 = 0 then (0, (1, n, wk, sd, bt, lt, lo, ct, rk, ad, sp, gd, rf, sm, js, sn, wl, vl, bg, cm)) else if k = 0 then (nI n, (0, n, wk, sd, bt, lt, lo, ct, rk, ad, sp, gd, rf, sm, js, sn, wl, vl, bg, cm)) else if k = 1 then (nI ct, (0, n, wk, sd, bt, lt, lo, ct, rk, ad, sp, gd, rf, sm, js, sn, wl, vl, bg, cm)) else if k = 2 then (gd, (0, n, wk, sd, bt, lt, lo, ct, rk, ad, sp, gd, rf, sm, js, sn, wl, vl, bg, cm)) else (rf, (0, n, wk, sd, bt, lt, lo, ct, rk, ad, sp, gd, rf, sm, js, sn, wl, vl, bg, cm))
theorem gM0_share_M0_isShare : GoodIn lw_good (wsV RM0 50 RM0 yM0_isShare wsM0_isShare) := gm (List.forall_mem_cons.mpr ⟨⟨m_496, rfl⟩, List.forall_mem_cons.mpr ⟨⟨m_498, rfl⟩, List.forall_mem_cons.mpr ⟨⟨m_12, rfl⟩, List.forall_mem_cons.mpr ⟨⟨m_27, rfl⟩, List.forall_mem_cons.mpr ⟨⟨m_499, rfl⟩, fun _ h => absurd h List.not_mem_nil⟩⟩⟩⟩⟩)
theorem gM0_share_M0_in : GoodIn lw_good (va_wsS RM0 58 yM0_in wsM0_in) := gm (List.forall_mem_cons.mpr ⟨⟨m_504, rfl⟩, List.forall_mem_cons.mpr ⟨⟨m_505, rfl⟩, List.forall_mem_cons.mpr ⟨⟨m_27, rfl⟩, List.forall_mem_cons.mpr ⟨⟨m_506, rfl⟩, fun _ h => absurd h List.not_mem_nil⟩⟩⟩⟩)
theorem gM0_share_M0_refuse : GoodIn lw_good (wsV RM0 54 RM0 yM0_refuse wsM0_refuse) := gm (List.forall_mem_cons.mpr ⟨⟨m_500, rfl⟩, List.forall_mem_cons.mpr ⟨⟨m_502, rfl⟩, List.forall_mem_cons.mpr ⟨⟨m_13, rfl⟩, List.forall_mem_cons.mpr ⟨⟨m_27, rfl⟩, List.forall_mem_cons.mpr ⟨⟨m_503, rfl⟩, fun _ h => absurd h List.not_mem_nil⟩⟩⟩⟩⟩)
theorem gM0_fails_M0_isShare : GoodIn lw_good (wsV RM0 50 RM0 yM0_isShare wsM0_isShare) := gm (List.forall_mem_cons.mpr ⟨⟨m_496, rfl⟩, List.forall_mem_cons.mpr ⟨⟨m_498, rfl⟩, List.forall_mem_cons.mpr ⟨⟨m_12, rfl⟩, List.forall_mem_cons.mpr ⟨⟨m_27, rfl⟩, List.forall_mem_cons.mpr ⟨⟨m_499, rfl⟩, fun _ h => absurd h List.not_mem_nil⟩⟩⟩⟩⟩)
theorem gM0_fails_M0_in : GoodIn lw_good (va_wsS RM0 58 yM0_in wsM0_in) := gm (List.forall_mem_cons.mpr ⟨⟨m_504, rfl⟩, List.forall_mem_cons.mpr ⟨⟨m_505, rfl⟩, List.forall_mem_cons.mpr ⟨⟨m_27, rfl⟩, List.forall_mem_cons.mpr ⟨⟨m_506, rfl⟩, fun _ h => absurd h List.not_mem_nil⟩⟩⟩⟩)
theorem gM0_fails_M0_refuse : GoodIn lw_good (wsV RM0 54 RM0 yM0_refuse wsM0_refuse) := gm (List.forall_mem_cons.mpr ⟨⟨m_500, rfl⟩, List.forall_mem_cons.mpr ⟨⟨m_502, rfl⟩, List.forall_mem_cons.mpr ⟨⟨m_13, rfl⟩, List.forall_mem_cons.mpr ⟨⟨m_27, rfl⟩, List.forall_mem_cons.mpr ⟨⟨m_503, rfl⟩, fun _ h => absurd h List.not_mem_nil⟩⟩⟩⟩⟩)
theorem gM0_act_M0_in : GoodIn lw_good (va_wsS RM0 58 yM0_in wsM0_in) := gm (List.forall_mem_cons.mpr ⟨⟨m_504, rfl⟩, List.forall_mem_cons.mpr ⟨⟨m_505, rfl⟩, List.forall_mem_cons.mpr ⟨⟨m_27, rfl⟩, List.forall_mem_cons.mpr ⟨⟨m_506, rfl⟩, fun _ h => absurd h List.not_mem_nil⟩⟩⟩⟩)
theorem gM0_act_M0_refuse : GoodIn lw_good (wsV RM0 54 RM0 yM0_refuse wsM0_refuse) := gm (List.forall_mem_cons.mpr ⟨⟨m_500, rfl⟩, List.forall_mem_cons.mpr ⟨⟨m_502, rfl⟩, List.forall_mem_cons.mpr ⟨⟨m_13, rfl⟩, List.forall_mem_cons.mpr ⟨⟨m_27, rfl⟩, List.forall_mem_cons.mpr ⟨⟨m_503, rfl⟩, fun _ h => absurd h List.not_mem_nil⟩⟩⟩⟩⟩)
theorem gM0_stop_M0_isShare : GoodIn lw_good (wsV RM0 50 RM0 yM0_isShare wsM0_isShare) := gm (List.forall_mem_cons.mpr ⟨⟨m_496, rfl⟩, List.forall_mem_cons.mpr ⟨⟨m_498, rfl⟩, List.forall_mem_cons.mpr ⟨⟨m_12, rfl⟩, List.forall_mem_cons.mpr ⟨⟨m_27, rfl⟩, List.forall_mem_cons.mpr ⟨⟨m_499, rfl⟩, fun _ h => absurd h List.not_mem_nil⟩⟩⟩⟩⟩)
theorem gM0_stop_M0_refuse : GoodIn lw_good (wsV RM0 54 RM0 yM0_refuse wsM0_refuse) := gm (List.forall_mem_cons.mpr ⟨⟨m_500, rfl⟩, List.forall_mem_cons.mpr ⟨⟨m_502, rfl⟩, List.forall_mem_cons.mpr ⟨⟨m_13, rfl⟩, List.forall_mem_cons.mpr ⟨⟨m_27, rfl⟩, List.forall_mem_cons.mpr ⟨⟨m_503, rfl⟩, fun _ h => absurd h List.not_mem_nil⟩⟩⟩⟩⟩)
theorem gM0_join_M0_acted : GoodIn lw_good (wsV RM0 80 RM0 yM0_acted wsM0_acted) := gm (List.forall_mem_cons.mpr ⟨⟨m_534, rfl⟩, List.forall_mem_cons.mpr ⟨⟨m_536, rfl⟩, List.forall_mem_cons.mpr ⟨⟨m_16, rfl⟩, List.forall_mem_cons.mpr ⟨⟨m_27, rfl⟩, List.forall_mem_cons.mpr ⟨⟨m_537, rfl⟩, fun _ h => absurd h List.not_mem_nil⟩⟩⟩⟩⟩)
theorem gM0_join_M0_settles : GoodIn lw_good (wsV RM0 86 RM0 yM0_settles wsM0_settles) := gm (List.forall_mem_cons.mpr ⟨⟨m_540, rfl⟩, List.forall_mem_cons.mpr ⟨⟨m_542, rfl⟩, List.forall_mem_cons.mpr ⟨⟨m_17, rfl⟩, List.forall_mem_cons.mpr ⟨⟨m_27, rfl⟩, List.forall_mem_cons.mpr ⟨⟨m_543, rfl⟩, fun _ h => absurd h List.not_mem_nil⟩⟩⟩⟩⟩)
theorem gM0_run_M0_in : GoodIn lw_good (va_wsS RM0 58 yM0_in wsM0_in) := gm (List.forall_mem_cons.mpr ⟨⟨m_504, rfl⟩, List.forall_mem_cons.mpr ⟨⟨m_505, rfl⟩, List.forall_mem_cons.mpr ⟨⟨m_27, rfl⟩, List.forall_mem_cons.mpr ⟨⟨m_506, rfl⟩, fun _ h => absurd h List.not_mem_nil⟩⟩⟩⟩)
theorem gM0_run_M0_join : GoodIn lw_good (wsV RM0 105 RM0 yM0_join wsM0_join) := gm (List.forall_mem_cons.mpr ⟨⟨m_530, rfl⟩, List.forall_mem_cons.mpr ⟨⟨m_532, rfl⟩, List.forall_mem_cons.mpr ⟨⟨m_15, rfl⟩, List.forall_mem_cons.mpr ⟨⟨m_27, rfl⟩, List.forall_mem_cons.mpr ⟨⟨m_533, rfl⟩, fun _ h => absurd h List.not_mem_nil⟩⟩⟩⟩⟩)
theorem gM0_run_M0_after : GoodIn lw_good (wsV RM0 101 RM0 yM0_after wsM0_after) := gm (List.forall_mem_cons.mpr ⟨⟨m_523, rfl⟩, List.forall_mem_cons.mpr ⟨⟨m_525, rfl⟩, List.forall_mem_cons.mpr ⟨⟨m_14, rfl⟩, List.forall_mem_cons.mpr ⟨⟨m_27, rfl⟩, List.forall_mem_cons.mpr ⟨⟨m_526, rfl⟩, fun _ h => absurd h List.not_mem_nil⟩⟩⟩⟩⟩)
theorem gM0_run_M0_refuse : GoodIn lw_good (wsV RM0 54 RM0 yM0_refuse wsM0_refuse) := gm (List.forall_mem_cons.mpr ⟨⟨m_500, rfl⟩, List.forall_mem_cons.mpr ⟨⟨m_502, rfl⟩, List.forall_mem_cons.mpr ⟨⟨m_13, rfl⟩, List.forall_mem_cons.mpr ⟨⟨m_27, rfl⟩, List.forall_mem_cons.mpr ⟨⟨m_503, rfl⟩, fun _ h => absurd h List.not_mem_nil⟩⟩⟩⟩⟩)
theorem gM0_joined_M0_isNone : GoodIn lw_good (wsV RM0 109 RM0 yM0_isNone wsM0_isNone) := gm (List.forall_mem_cons.mpr ⟨⟨m_548, rfl⟩, List.forall_mem_cons.mpr ⟨⟨m_550, rfl⟩, List.forall_mem_cons.mpr ⟨⟨m_18, rfl⟩, List.forall_mem_cons.mpr ⟨⟨m_27, rfl⟩, List.forall_mem_cons.mpr ⟨⟨m_551, rfl⟩, fun _ h => absurd h List.not_mem_nil⟩⟩⟩⟩⟩)
theorem gM0_many_M0_isNone : GoodIn lw_good (wsV RM0 109 RM0 yM0_isNone wsM0_isNone) := gm (List.forall_mem_cons.mpr ⟨⟨m_548, rfl⟩, List.forall_mem_cons.mpr ⟨⟨m_550, rfl⟩, List.forall_mem_cons.mpr ⟨⟨m_18, rfl⟩, List.forall_mem_cons.mpr ⟨⟨m_27, rfl⟩, List.forall_mem_cons.mpr ⟨⟨m_551, rfl⟩, fun _ h => absurd h List.not_mem_nil⟩⟩⟩⟩⟩)
theorem gM0_value_M0_isShare : GoodIn lw_good (wsV RM0 50 RM0 yM0_isShare wsM0_isShare) := gm (List.forall_mem_cons.mpr ⟨⟨m_496, rfl⟩, List.forall_mem_cons.mpr ⟨⟨m_498, rfl⟩, List.forall_mem_cons.mpr ⟨⟨m_12, rfl⟩, List.forall_mem_cons.mpr ⟨⟨m_27, rfl⟩, List.forall_mem_cons.mpr ⟨⟨m_499, rfl⟩, fun _ h => absurd h List.not_mem_nil⟩⟩⟩⟩⟩)
theorem gM0_value_M0_isRefused : GoodIn lw_good (wsV RM0 113 RM0 yM0_isRefused wsM0_isRefused) := gm (List.forall_mem_cons.mpr ⟨⟨m_560, rfl⟩, List.forall_mem_cons.mpr ⟨⟨m_562, rfl⟩, List.forall_mem_cons.mpr ⟨⟨m_19, rfl⟩, List.forall_mem_cons.mpr ⟨⟨m_27, rfl⟩, List.forall_mem_cons.mpr ⟨⟨m_563, rfl⟩, fun _ h => absurd h List.not_mem_nil⟩⟩⟩⟩⟩)
theorem gM0_chain_M0_isShare : GoodIn lw_good (wsV RM0 50 RM0 yM0_isShare wsM0_isShare) := gm (List.forall_mem_cons.mpr ⟨⟨m_496, rfl⟩, List.forall_mem_cons.mpr ⟨⟨m_498, rfl⟩, List.forall_mem_cons.mpr ⟨⟨m_12, rfl⟩, List.forall_mem_cons.mpr ⟨⟨m_27, rfl⟩, List.forall_mem_cons.mpr ⟨⟨m_499, rfl⟩, fun _ h => absurd h List.not_mem_nil⟩⟩⟩⟩⟩)
theorem gM0_chain_M0_in : GoodIn lw_good (va_wsS RM0 58 yM0_in wsM0_in) := gm (List.forall_mem_cons.mpr ⟨⟨m_504, rfl⟩, List.forall_mem_cons.mpr ⟨⟨m_505, rfl⟩, List.forall_mem_cons.mpr ⟨⟨m_27, rfl⟩, List.forall_mem_cons.mpr ⟨⟨m_506, rfl⟩, fun _ h => absurd h List.not_mem_nil⟩⟩⟩⟩)
theorem gM0_chain_M0_after : GoodIn lw_good (wsV RM0 101 RM0 yM0_after wsM0_after) := gm (List.forall_mem_cons.mpr ⟨⟨m_523, rfl⟩, List.forall_mem_cons.mpr ⟨⟨m_525, rfl⟩, List.forall_mem_cons.mpr ⟨⟨m_14, rfl⟩, List.forall_mem_cons.mpr ⟨⟨m_27, rfl⟩, List.forall_mem_cons.mpr ⟨⟨m_526, rfl⟩, fun _ h => absurd h List.not_mem_nil⟩⟩⟩⟩⟩)
theorem gM0_came_M0_in : GoodIn lw_good (va_wsS RM0 58 yM0_in wsM0_in) := gm (List.forall_mem_cons.mpr ⟨⟨m_504, rfl⟩, List.forall_mem_cons.mpr ⟨⟨m_505, rfl⟩, List.forall_mem_cons.mpr ⟨⟨m_27, rfl⟩, List.forall_mem_cons.mpr ⟨⟨m_506, rfl⟩, fun _ h => absurd h List.not_mem_nil⟩⟩⟩⟩)
theorem gM0_came_M0_isRefused : GoodIn lw_good (wsV RM0 113 RM0 yM0_isRefused wsM0_isRefused) := gm (List.forall_mem_cons.mpr ⟨⟨m_560, rfl⟩, List.forall_mem_cons.mpr ⟨⟨m_562, rfl⟩, List.forall_mem_cons.mpr ⟨⟨m_19, rfl⟩, List.forall_mem_cons.mpr ⟨⟨m_27, rfl⟩, List.forall_mem_cons.mpr ⟨⟨m_563, rfl⟩, fun _ h => absurd h List.not_mem_nil⟩⟩⟩⟩⟩)
theorem gM0_begun_M0_isShare : GoodIn lw_good (wsV RM0 50 RM0 yM0_isShare wsM0_isShare) := gm (List.forall_mem_cons.mpr ⟨⟨m_496, rfl⟩, List.forall_mem_cons.mpr ⟨⟨m_498, rfl⟩, List.forall_mem_cons.mpr ⟨⟨m_12, rfl⟩, List.forall_mem_cons.mpr ⟨⟨m_27, rfl⟩, List.forall_mem_cons.mpr ⟨⟨m_499, rfl⟩, fun _ h => absurd h List.not_mem_nil⟩⟩⟩⟩⟩)
theorem gM0_begun_M0_isRefused : GoodIn lw_good (wsV RM0 113 RM0 yM0_isRefused wsM0_isRefused) := gm (List.forall_mem_cons.mpr ⟨⟨m_560, rfl⟩, List.forall_mem_cons.mpr ⟨⟨m_562, rfl⟩, List.forall_mem_cons.mpr ⟨⟨m_19, rfl⟩, List.forall_mem_cons.mpr ⟨⟨m_27, rfl⟩, List.forall_mem_cons.mpr ⟨⟨m_563, rfl⟩, fun _ h => absurd h List.not_mem_nil⟩⟩⟩⟩⟩)
theorem gM0_steps_M0_in : GoodIn lw_good (va_wsS RM0 58 yM0_in wsM0_in) := gm (List.forall_mem_cons.mpr ⟨⟨m_504, rfl⟩, List.forall_mem_cons.mpr ⟨⟨m_505, rfl⟩, List.forall_mem_cons.mpr ⟨⟨m_27, rfl⟩, List.forall_mem_cons.mpr ⟨⟨m_506, rfl⟩, fun _ h => absurd h List.not_mem_nil⟩⟩⟩⟩)
theorem gM0_steps_M0_isRefused : GoodIn lw_good (wsV RM0 113 RM0 yM0_isRefused wsM0_isRefused) := gm (List.forall_mem_cons.mpr ⟨⟨m_560, rfl⟩, List.forall_mem_cons.mpr ⟨⟨m_562, rfl⟩, List.forall_mem_cons.mpr ⟨⟨m_19, rfl⟩, List.forall_mem_cons.mpr ⟨⟨m_27, rfl⟩, List.forall_mem_cons.mpr ⟨⟨m_563, rfl⟩, fun _ h => absurd h List.not_mem_nil⟩⟩⟩⟩⟩)
theorem gM0_count_M0_in : GoodIn lw_good (va_wsS RM0 58 yM0_in wsM0_in) := gm (List.forall_mem_cons.mpr ⟨⟨m_504, rfl⟩, List.forall_mem_cons.mpr ⟨⟨m_505, rfl⟩, List.forall_mem_cons.mpr ⟨⟨m_27, rfl⟩, List.forall_mem_cons.mpr ⟨⟨m_506, rfl⟩, fun _ h => absurd h List.not_mem_nil⟩⟩⟩⟩)
