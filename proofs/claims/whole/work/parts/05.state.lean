/-! ===== what a state of the class is; what its methods work out ===== -/
abbrev xS : Type := Nat × (Nat → Int32) × (Nat → Int32) × (Nat → Int32) × (Nat → Int32) × (Nat → Int32) × (Nat → Int32) × (Nat → Int32) × (Nat → Int32) × (Nat → Int32) × (Nat → Int32) × Int32 × Int32 × Int32 × Nat × Int32 × Int64 × Int32 × Int32 × Int32
/-- the class's fourteen cells: the object, its three parts, their rows -/
abbrev wX (c0 : ClassId) (a : Nat → Nat) (u : xS) : va_W := match u with
  | (n, wk, sd, bt, lt, lo, rk, ad, vl, bg, cm, sp, gd, rf, ct, rd, sm, js, sn, wl) => [
    (a 0, .inr (0, [.ref (a 1), .ref (a 2), .ref (a 3), .int sp, .int gd, .int rf])),
    (a 1, .inr (1, [.int (nI n), .ref (a 4), .ref (a 5), .ref (a 6), .ref (a 7), .ref (a 8)])),
    (a 2, .inr (2, [.ref (a 9), .ref (a 10), .int (nI ct)])),
    (a 3, .inr (3, [.ref (a 11), .ref (a 12), .ref (a 13), .int rd, .long sm, .int js, .int sn, .int wl])),
    (a 4, .inl (c0, n, .inl wk)),
    (a 5, .inl (c0, n, .inl sd)),
    (a 6, .inl (c0, n, .inl bt)),
    (a 7, .inl (c0, n, .inl lt)),
    (a 8, .inl (c0, n, .inl lo)),
    (a 9, .inl (c0, 24, .inl rk)),
    (a 10, .inl (c0, 24, .inl ad)),
    (a 11, .inl (c0, n, .inl vl)),
    (a 12, .inl (c0, n, .inl bg)),
    (a 13, .inl (c0, 24, .inl cm))]
/-- a share's x behind i steps -/
def chx (sd k : Int32) : Nat → Int64
  | 0 => 2654435761 * sd.toInt64 + k.toInt64
  | i + 1 => 6364136223846793005 * chx sd k i + 1442695040888963407
def vl9 (x : Int64) : Int32 := ((x.toUInt64 >>> ((33 : Int32).toInt64.toUInt64 &&& Int64.toUInt64 63)).toInt64).toInt32
def lastV (wk sd : Nat → Int32) (k : Int32) : Int32 := vl9 (chx (sd k.toNatClampNeg) k (wk k.toNatClampNeg).toNatClampNeg)
def stl (b v : Int32) : Int32 := if b = 0 then 0 else if v &&& ((1 <<< (b &&& 31)) - 1) = 0 then 1 else 0
def sumL (f : Nat → Int32) : Nat → Int32
  | 0 => 0
  | i + 1 => sumL f i + f i
def swl (wk lt lo : Nat → Int32) (k : Int32) : Int32 := wk k.toNatClampNeg + (lo k.toNatClampNeg * (if wk k.toNatClampNeg < lt k.toNatClampNeg then wk k.toNatClampNeg else lt k.toNatClampNeg))
def fil (f g : Nat → Int32) : Nat → Nat → Int32
  | 0 => g
  | i + 1 => upd (fil f g i) i (f i)
/-- the acts of rank r let in, the first i of them looked at -/
def linS (rk ad : Nat → Int32) (r : Int32) (s0 : Int64) : Nat → Int64
  | 0 => s0
  | i + 1 => if rk i = r then 31 * linS rk ad r s0 i + (ad i).toInt64 else linS rk ad r s0 i
def linC (rk : Nat → Int32) (r : Int32) (m0 : Nat → Int32) : Nat → Nat → Int32
  | 0 => m0
  | i + 1 => if rk i = r then upd (linC rk r m0 i) i r else linC rk r m0 i
/-- the joining of the first k shares -/
def jnS (rk ad vl : Nat → Int32) (ct : Nat) : Nat → Int64
  | 0 => 0
  | k + 1 => 1000003 * linS rk ad (nI k) (jnS rk ad vl ct k) ct + (vl k).toInt64
def jnC (rk : Nat → Int32) (ct : Nat) (m0 : Nat → Int32) : Nat → Nat → Int32
  | 0 => m0
  | k + 1 => linC rk (nI k) (jnC rk ct m0 k) ct
def jnE (bt rk ad vl m0 : Nat → Int32) (ct n : Nat) (z : Int32) : Nat → Nat → Int32 × Int64 × (Nat → Int32) × Nat
  | 0, k => (-1, linS rk ad (nI n) (jnS rk ad vl ct k) ct, linC rk (nI n) (jnC rk ct m0 k) ct, k)
  | f + 1, k => if nI k = z then (-1, jnS rk ad vl ct k, jnC rk ct m0 k, k) else if stl (bt k) (vl k) = 0 then jnE bt rk ad vl m0 ct n z f (k + 1) else (nI k, jnS rk ad vl ct (k + 1), jnC rk ct m0 (k + 1), k + 1)
/-! the face: (0, the answer, the state behind it), or (1 or 2, 0, the same state) where it throws -/
def f_share (u : xS) (k w x b : Int32) : Int32 × Int64 × xS := match u with
  | (n, wk, sd, bt, lt, lo, rk, ad, vl, bg, cm, sp, gd, rf, ct, rd, sm, js, sn, wl) => if k < 0 then (1, 0, u) else if k < nI n then (if w < 1 then (2, 0, u) else if w ≤ 30 then (if b < 0 then (2, 0, u) else if b ≤ 8 then (0, (wk k.toNatClampNeg).toInt64, (n, upd wk k.toNatClampNeg w, upd sd k.toNatClampNeg x, upd bt k.toNatClampNeg b, lt, lo, rk, ad, vl, bg, cm, sp, gd, rf, ct, rd, sm, js, sn, wl)) else (2, 0, u)) else (2, 0, u)) else (1, 0, u)
def f_fails (u : xS) (k w x : Int32) : Int32 × Int64 × xS := match u with
  | (n, wk, sd, bt, lt, lo, rk, ad, vl, bg, cm, sp, gd, rf, ct, rd, sm, js, sn, wl) => if k < 0 then (1, 0, u) else if k < nI n then (if w < 1 then (2, 0, u) else if w ≤ 30 then (if x < 0 then (2, 0, u) else if x ≤ 4 then (0, (lo k.toNatClampNeg).toInt64, (n, wk, sd, bt, upd lt k.toNatClampNeg w, upd lo k.toNatClampNeg x, rk, ad, vl, bg, cm, sp, gd, rf, ct, rd, sm, js, sn, wl)) else (2, 0, u)) else (2, 0, u)) else (1, 0, u)
def f_act (u : xS) (k v : Int32) : Int32 × Int64 × xS := match u with
  | (n, wk, sd, bt, lt, lo, rk, ad, vl, bg, cm, sp, gd, rf, ct, rd, sm, js, sn, wl) => if k < 0 then (1, 0, u) else if k ≤ nI n then (if nI ct < 24 then (0, (nI ct).toInt64, (n, wk, sd, bt, lt, lo, upd rk ct k, upd ad ct v, vl, bg, cm, sp, gd, rf, ct + 1, rd, sm, js, sn, wl)) else (2, 0, u)) else (1, 0, u)
def f_stop (u : xS) (k : Int32) : Int32 × Int64 × xS := match u with
  | (n, wk, sd, bt, lt, lo, rk, ad, vl, bg, cm, sp, gd, rf, ct, rd, sm, js, sn, wl) => if k = -1 then (0, sp.toInt64, (n, wk, sd, bt, lt, lo, rk, ad, vl, bg, cm, k, gd, rf, ct, rd, sm, js, sn, wl)) else if k < 0 then (1, 0, u) else if k < nI n then (0, sp.toInt64, (n, wk, sd, bt, lt, lo, rk, ad, vl, bg, cm, k, gd, rf, ct, rd, sm, js, sn, wl)) else (1, 0, u)
def f_run (u : xS) (w _y : Int32) : Int32 × Int64 × xS := match u with
  | (n, wk, sd, bt, lt, lo, rk, ad, vl, bg, cm, sp, gd, rf, ct, rd, sm, js, sn, wl) => if w < 1 then (1, 0, u) else if w ≤ 6 then (if 1 ≤ w - sumL lo n then (match jnE bt rk ad (fil (fun j => lastV wk sd (nI j)) vl n) (fil (fun _ => (-1)) cm 24) ct n sp n 0 with
      | (r, s9, c9, j9) => (0, r.toInt64, (n, wk, sd, bt, lt, lo, rk, ad, fil (fun j => lastV wk sd (nI j)) vl n, fil (fun j => lo j + 1) bg n, c9, sp, gd + 1, rf, ct, 1, s9, nI j9, sumL (fun j => swl wk lt lo (nI j)) n, w - sumL lo n)))
    else (0, (-2 : Int32).toInt64, (n, wk, sd, bt, lt, lo, rk, ad, vl, bg, cm, sp, gd, rf + 1, ct, rd, sm, js, sn, wl))) else (1, 0, u)
def f_joined (u : xS) : Int32 × Int64 × xS := match u with
  | (_, _, _, _, _, _, _, _, _, _, _, _, _, _, _, rd, sm, _, _, _) => if rd = 0 then (1, 0, u) else (0, sm, u)
def f_many (u : xS) : Int32 × Int64 × xS := match u with
  | (_, _, _, _, _, _, _, _, _, _, _, _, _, _, _, rd, _, js, _, _) => if rd = 0 then (1, 0, u) else (0, js.toInt64, u)
def f_value (u : xS) (k : Int32) : Int32 × Int64 × xS := match u with
  | (n, _, _, _, _, _, _, _, vl, _, _, _, _, _, _, rd, _, _, _, _) => if k < 0 then (1, 0, u) else if k < nI n then (if rd = 0 then (2, 0, u) else (0, (vl k.toNatClampNeg).toInt64, u)) else (1, 0, u)
def f_chain (u : xS) (k w : Int32) : Int32 × Int64 × xS := match u with
  | (n, wk, sd, _, _, _, _, _, _, _, _, _, _, _, _, _, _, _, _, _) => if k < 0 then (1, 0, u) else if k < nI n then (if w < 0 then (1, 0, u) else if w ≤ wk k.toNatClampNeg then (0, chx (sd k.toNatClampNeg) k w.toNatClampNeg, u) else (1, 0, u)) else (1, 0, u)
def f_came (u : xS) (k : Int32) : Int32 × Int64 × xS := match u with
  | (_, _, _, _, _, _, _, _, _, _, cm, _, _, _, ct, rd, _, _, _, _) => if k < 0 then (1, 0, u) else if k < nI ct then (if rd = 0 then (2, 0, u) else (0, (cm k.toNatClampNeg).toInt64, u)) else (1, 0, u)
def f_begun (u : xS) (k : Int32) : Int32 × Int64 × xS := match u with
  | (n, _, _, _, _, _, _, _, _, bg, _, _, _, _, _, rd, _, _, _, _) => if k < 0 then (1, 0, u) else if k < nI n then (if rd = 0 then (2, 0, u) else (0, (bg k.toNatClampNeg).toInt64, u)) else (1, 0, u)
def f_steps (u : xS) (k : Int32) : Int32 × Int64 × xS := match u with
  | (_, _, _, _, _, _, _, _, _, _, _, _, _, _, _, rd, _, _, sn, wl) => if k < 0 then (1, 0, u) else if k ≤ 1 then (if rd = 0 then (2, 0, u) else if k = 0 then (0, sn.toInt64, u) else (0, wl.toInt64, u)) else (1, 0, u)
def f_count (u : xS) (k : Int32) : Int32 × Int64 × xS := match u with
  | (n, _, _, _, _, _, _, _, _, _, _, _, gd, rf, ct, _, _, _, _, _) => if k = 0 then (0, (nI n).toInt64, u) else if k = 1 then (0, (nI ct).toInt64, u) else if k = 2 then (0, gd.toInt64, u) else if k = 3 then (0, rf.toInt64, u) else (1, 0, u)
/-! ===== words that the contracts take as given: links across the nest, texts, statics of Throwable ===== -/
def evS : List (String × Nat × String) := [("DrawShares", 130, "there is no such step"), ("DrawShares", 136, "there is no such act"), ("DrawShares", 144, "what is not 0 or 1"), ("DrawShares", 149, "what is not 0 .. 3"), ("DrawShares", 151, "there is no such share"), ("DrawShares", 157, "there was no run that was not refused"), ("DrawShares", 50, "work is not 1 .. 30"), ("DrawShares", 55, "bits are not 0 .. 8"), ("DrawShares", 67, "step is not 1 .. 30"), ("DrawShares", 69, "times is not 0 .. 4"), ("DrawShares", 82, "there is no such rank"), ("DrawShares", 88, "there are 24 acts"), ("DrawShares", 94, "workers is not 1 .. 6")]
def evC : List (String × String) := [("java/lang/IllegalArgumentException", "java/lang/IndexOutOfBoundsException"), ("java/lang/IllegalStateException", "java/lang/IndexOutOfBoundsException")]
/-- what holds of the machine beside the code; A: where a method may write -/
def EV (A : Nat → Prop) (U : State) (H : Heap) : Prop := (∀ w ∈ lw_tbl, okw w = true → w.before #[] U = true) ∧ (∀ q ∈ evS, ∃ sa : Nat, vk_R q.1 q.2.1 q.2.2 sa U) ∧ vx_Zq Bundle.tN "UNASSIGNED_STACK" Bundle.steD A U H ∧ vx_Zq Bundle.tN "SUPPRESSED_SENTINEL" Bundle.listD A U H ∧ (∀ q ∈ evC, va_Nc q.1 q.2 U)
theorem EV.t {A : Nat → Prop} {U : State} {H : Heap} (h : EV A U H) {w : Cond} (hw : w ∈ lw_tbl) (hk : okw w = true) {args : Array Value} : w.before args U = true := okw_any hk (h.1 w hw hk)
theorem EV.t0 {A : Nat → Prop} {U : State} {H : Heap} (h : EV A U H) {w : Cond} (hw : w ∈ lw_tbl) (hk : okw w = true) : va_Nw w U := h.1 w hw hk
theorem EV.ts {A : Nat → Prop} {U : State} {H : Heap} (h : EV A U H) {args : Array Value} : ∀ w ∈ lw_good, w.before args U = true := fun w hw => h.t (List.mem_filter.mp hw).1 (by unfold okw; rw [(List.mem_filter.mp hw).2]; rfl)
theorem EV.st {A : Nat → Prop} {U : State} {H : Heap} (h : EV A U H) (q : String × Nat × String) (hq : q ∈ evS) : ∃ sa : Nat, vk_R q.1 q.2.1 q.2.2 sa U := h.2.1 q hq
theorem EV.zu {A : Nat → Prop} {U : State} {H : Heap} (h : EV A U H) : vx_Zq Bundle.tN "UNASSIGNED_STACK" Bundle.steD A U H := h.2.2.1
theorem EV.zn {A : Nat → Prop} {U : State} {H : Heap} (h : EV A U H) : vx_Zq Bundle.tN "SUPPRESSED_SENTINEL" Bundle.listD A U H := h.2.2.2.1
theorem EV.nc {A : Nat → Prop} {U : State} {H : Heap} (h : EV A U H) (q : String × String) (hq : q ∈ evC) : va_Nc q.1 q.2 U := h.2.2.2.2 q hq
theorem EV.give {A B : Nat → Prop} {s U : State} {H0 H : Heap} {locs : List Loc} (h : EV A s H0) (hS : va_S A H0 H locs) (hF : ∀ q, B q → A q) (hU : U.heap = H) (hW : s.WarmedH U.vm) : EV B U U.heap := by
  rw [hU]
  exact ⟨fun w hw hk => okw_warm hk hW (h.1 w hw hk), fun q hq => (h.2.1 q hq).elim fun sa hs => ⟨sa, vk_R.warm hW hs⟩, vx_Zq.moved hW.alike ((vx_Zq.kept h.2.2.1 hS.2.1).narrow hF), vx_Zq.moved hW.alike ((vx_Zq.kept h.2.2.2.1 hS.2.1).narrow hF), fun q hq => va_Nc.moved hW.alike (h.2.2.2.2 q hq)⟩
theorem EV.calling {A : Nat → Prop} {U : State} (h : EV A U U.heap) (g : JFrame) (mk : MethodId) (a : Array Value) : EV A (U.calling g mk a) (U.calling g mk a).heap :=
  h.give (va_S.rf (A := A) (H0 := U.heap)) (fun _ h => h) rfl (State.WarmedH.refl U)
/-! ===== a contract's start and end over the class's world ===== -/
abbrev PX (dC : Nat → ClassId) (dI : Nat → Nat → Nat) (c0 : ClassId) (a : Nat → Nat) (u : xS) (sz : Nat) : State → Prop := fun U => U.heap.size = sz ∧ va_P (dC, dI) vwCl (wX c0 a u) U.heap ∧ va_K (dC, dI) vwCl [(c0, .int)] U ∧ va_D (fun _ => True) (wX c0 a u) ∧ EV (va_A (wX c0 a u) sz) U U.heap
abbrev BX (dC : Nat → ClassId) (dI : Nat → Nat → Nat) (c0 : ClassId) (a : Nat → Nat) (A : Nat → Prop) (u : xS) (t : State) : Prop := va_P (dC, dI) vwCl (wX c0 a u) t.heap ∧ va_K (dC, dI) vwCl [(c0, .int)] t ∧ va_D A (wX c0 a u)
theorem gz {α : Type} {P : α → Prop} {x : α} (h : ∀ z, z = x → P z) : P x := h x rfl
theorem fre {A : Nat → Prop} {ws : va_W} {H0 H : Heap} {locs : List Loc} (hD : va_D A ws) (hS : va_S A H0 H locs) (hA : ∀ q, H0.size ≤ q → A q) : ∀ q, va_A ws H.size q → A q := fun q h => h.elim (fun ⟨k, e, hk⟩ => hD.2 k (q, e) hk) (fun h => hA q (Nat.le_trans hS.1 h))
theorem fre1 {A : Nat → Prop} {ws : va_W} {H0 H : Heap} {locs : List Loc} (hD : va_D A ws) (hS : va_S A H0 H locs) (hA : ∀ q, H0.size ≤ q → A q) {k : Nat} {x : Nat × va_E} (hk : ws[k]? = some x) : ∀ q, va_A [x] H.size q → A q := fun q h => h.elim (fun ⟨j, e, hj⟩ => by
  match j, hj with
  | 0, hj => cases hj; exact hD.2 k _ hk
  | j + 1, hj => simp at hj) (fun h => hA q (Nat.le_trans hS.1 h))
theorem PX_blind {dC : Nat → ClassId} {dI : Nat → Nat → Nat} {c0 : ClassId} {a : Nat → Nat} {u : xS} {sz : Nat} {av : List Value} : FrameBlind (va_Pc av (PX dC dI c0 a u sz)) := fun a U g mk q => by
  obtain ⟨q0, q1, q2, q3, q4, q5⟩ := q
  exact ⟨q0, q1, q2, va_K.moved (u := U) (U := U.calling g mk a) (Vm.Alike.refl U.vm) q3, q4, q5.calling g mk a⟩
theorem PX_give {dC : Nat → ClassId} {dI : Nat → Nat → Nat} {c0 : ClassId} {a : Nat → Nat} {u : xS} {s : State} {H : Heap} {A : Nat → Prop} {locs : List Loc} {av : List Value} (hP : va_P (dC, dI) vwCl (wX c0 a u) H) (hK : va_K (dC, dI) vwCl [(c0, .int)] s) (hD : va_D A (wX c0 a u)) (hE : EV A s s.heap) (hS : va_S A s.heap H locs) (hF : ∀ q, va_A (wX c0 a u) H.size q → A q) : ∀ U : State, U.heap = H → s.WarmedH U.vm → va_Pc av (PX dC dI c0 a u H.size) av.toArray U := fun U hU hW =>
  ⟨rfl, by rw [hU], by rw [hU]; exact hP, va_K.moved hW.alike hK, hD.weaken (fun _ _ _ _ => trivial), hE.give hS hF hU hW⟩
theorem PX_take {dC : Nat → ClassId} {dI : Nat → Nat → Nat} {c0 : ClassId} {a : Nat → Nat} {u : xS} {t : State} {H1 : Heap} {A B : Nat → Prop} (ht : t.heap = H1) (hF : ∀ q, B q → A q) (hB : BX dC dI c0 a B u t) : va_P (dC, dI) vwCl (wX c0 a u) H1 ∧ va_D A (wX c0 a u) := by
  obtain ⟨h1, -, h3⟩ := hB
  rw [ht] at h1
  exact ⟨h1, h3.weaken (fun _ q _ h => hF q.1 h)⟩
theorem thr_B {D : va_G} {cl : List vw_C} {ws : va_W} {tys : List (ClassId × FieldType)} {A : Nat → Prop} {s t : State} {H : Heap} {locs : List Loc} (hP : va_P D cl ws H) (hK : va_K D cl tys s) (hD : va_D A ws) (hS : va_S A s.heap H locs) (hvm : s.vm.Alike t.vm) (h1 : H.size ≤ t.heap.size) (h2 : ∀ q : Nat, q < H.size → t.heap[q]? = H[q]?) : (va_P D cl ws t.heap ∧ va_K D cl tys t ∧ va_D A ws) ∧ va_F A s t :=
  ⟨⟨hP.kept (fun k q hq => h2 q.1 (hP k q hq).lt), va_K.moved hvm hK, hD⟩, Nat.le_trans hS.1 h1, fun q hq hn => (h2 q (Nat.lt_of_lt_of_le hq hS.1)).trans (hS.2.1 q hq hn)⟩
/-! ===== numbers ===== -/
theorem cl_eq {st : Int32} {i : Nat} (hi : i ≤ st.toNatClampNeg) (h : st ≤ nI i) : i = st.toNatClampNeg := by
  by_cases h0 : st < 0
  · have : st.toNatClampNeg = 0 := by
      have h1 : st.toInt < 0 := by simpa using (Int32.lt_iff_toInt_lt.mp h0)
      simp only [Int32.toNatClampNeg]; omega
    omega
  · obtain ⟨j, hj, rfl⟩ := nI_of h0
    rw [nI_clamp hj] at hi ⊢
    have := (nI_leI hj (by omega)).mp h
    omega
theorem cl_lt {st : Int32} {i : Nat} (hi : i ≤ st.toNatClampNeg) (h : ¬ st ≤ nI i) : i < st.toNatClampNeg := by
  rcases Nat.lt_or_ge i st.toNatClampNeg with q | q
  · exact q
  · refine absurd ?_ h
    have e : i = st.toNatClampNeg := by omega
    by_cases h0 : st < 0
    · have h1 : st.toInt < 0 := by simpa using (Int32.lt_iff_toInt_lt.mp h0)
      have h2 : st.toNatClampNeg = 0 := by simp only [Int32.toNatClampNeg]; omega
      rw [e, h2, nI_0, Int32.le_iff_toInt_le, Int32.toInt_zero]; omega
    · obtain ⟨j, hj, rfl⟩ := nI_of h0
      rw [nI_clamp hj] at e
      rw [e]
      exact nI_le (Nat.le_refl _) hj
theorem in_of {k : Int32} {n : Nat} (h1 : ¬ k < 0) (h2 : k < nI n) (hn : n < 2 ^ 31) : vp_in k n := by
  obtain ⟨j, hj, rfl⟩ := nI_of h1
  exact vp_in_nI ((nI_ltI hj hn).mp h2) hn
theorem in_le {k : Int32} {n N : Nat} (h : vp_in k n) (hn : n ≤ N) : vp_in k N := fun q => h (q.imp id (fun q => Nat.le_trans hn q))
theorem ct_lt {c : Nat} (h : c ≤ 24) (h2 : nI c < 24) : c < 24 := by
  rcases Nat.lt_or_ge c 24 with q | q
  · exact q
  · have : c = 24 := by omega
    subst this
    exact absurd h2 (by decide)
theorem sw4 (k : Int32) (h : ¬ (k.toInt < 0 ∨ 3 < k.toInt)) : k = 0 ∨ k = 1 ∨ k = 2 ∨ k = 3 := by
  have h0 : ¬ k < 0 := fun q => h (Or.inl (by simpa using (Int32.lt_iff_toInt_lt.mp q)))
  obtain ⟨j, hj, rfl⟩ := nI_of h0
  rw [nI_toInt hj] at h
  have : j = 0 ∨ j = 1 ∨ j = 2 ∨ j = 3 := by omega
  rcases this with rfl | rfl | rfl | rfl
  · exact Or.inl rfl
  · exact Or.inr (Or.inl rfl)
  · exact Or.inr (Or.inr (Or.inl rfl))
  · exact Or.inr (Or.inr (Or.inr rfl))
theorem ne4 {k : Int32} (h : k.toInt < 0 ∨ 3 < k.toInt) : ¬ k = 0 ∧ ¬ k = 1 ∧ ¬ k = 2 ∧ ¬ k = 3 := by
  refine ⟨?_, ?_, ?_, ?_⟩ <;> (rintro rfl; revert h; decide)
/-! ===== starts of other shapes: constructors, rows filled ===== -/
abbrev PI (dC : Nat → ClassId) (dI : Nat → Nat → Nat) (ws : va_W) (tys : List (ClassId × FieldType)) (sz : Nat) : State → Prop := fun U => U.heap.size = sz ∧ va_P (dC, dI) vwCl ws U.heap ∧ va_K (dC, dI) vwCl tys U ∧ va_D (fun _ => True) ws
abbrev PJ (dC : Nat → ClassId) (dI : Nat → Nat → Nat) (ws : va_W) (sz : Nat) : State → Prop := fun U => U.heap.size = sz ∧ va_P (dC, dI) vwCl ws U.heap ∧ va_K (dC, dI) vwCl [] U ∧ va_D (fun _ => True) ws ∧ EV (va_A ws sz) U U.heap
theorem ini_blind {dC : Nat → ClassId} {dI : Nat → Nat → Nat} {ws : va_W} {tys : List (ClassId × FieldType)} {sz : Nat} {av : List Value} : FrameBlind (va_Pc av (PI dC dI ws tys sz)) := fun a U g mk q => by
  obtain ⟨q0, q1, q2, q3, q4⟩ := q
  exact ⟨q0, q1, q2, va_K.moved (u := U) (U := U.calling g mk a) (Vm.Alike.refl U.vm) q3, q4⟩
theorem fill_give {dC : Nat → ClassId} {dI : Nat → Nat → Nat} {ws : va_W} {tys : List (ClassId × FieldType)} {s : State} {H : Heap} {A : Nat → Prop} {av : List Value} (hP : va_P (dC, dI) vwCl ws H) (hK : va_K (dC, dI) vwCl tys s) (hD : va_D A ws) : ∀ U : State, U.heap = H → s.WarmedH U.vm → va_Pc av (PI dC dI ws tys H.size) av.toArray U := fun U hU hW =>
  ⟨rfl, by rw [hU], by rw [hU]; exact hP, va_K.moved hW.alike hK, hD.weaken (fun _ _ _ _ => trivial)⟩
theorem ini_give {dC : Nat → ClassId} {dI : Nat → Nat → Nat} {ws : va_W} {tys : List (ClassId × FieldType)} {s : State} {H : Heap} {A : Nat → Prop} {av : List Value} (hP : va_P (dC, dI) vwCl ws H) (hK : va_K (dC, dI) vwCl tys s) (hD : va_D A ws) : ∀ U : State, U.heap = H → s.WarmedH U.vm → va_Pc av (PI dC dI ws [] H.size) av.toArray U := fill_give hP (hK.sub [] rfl) hD
theorem ev_blind {dC : Nat → ClassId} {dI : Nat → Nat → Nat} {ws : va_W} {sz : Nat} {av : List Value} : FrameBlind (va_Pc av (PJ dC dI ws sz)) := fun a U g mk q => by
  obtain ⟨q0, q1, q2, q3, q4, q5⟩ := q
  exact ⟨q0, q1, q2, va_K.moved (u := U) (U := U.calling g mk a) (Vm.Alike.refl U.vm) q3, q4, q5.calling g mk a⟩
theorem ev_give {dC : Nat → ClassId} {dI : Nat → Nat → Nat} {ws : va_W} {tys : List (ClassId × FieldType)} {s : State} {H : Heap} {A : Nat → Prop} {locs : List Loc} {av : List Value} (hP : va_P (dC, dI) vwCl ws H) (hK : va_K (dC, dI) vwCl tys s) (hD : va_D A ws) (hE : EV A s s.heap) (hS : va_S A s.heap H locs) (hF : ∀ q, va_A ws H.size q → A q) : ∀ U : State, U.heap = H → s.WarmedH U.vm → va_Pc av (PJ dC dI ws H.size) av.toArray U := fun U hU hW =>
  ⟨rfl, by rw [hU], by rw [hU]; exact hP, va_K.moved hW.alike (hK.sub [] rfl), hD.weaken (fun _ _ _ _ => trivial), hE.give hS hF hU hW⟩
theorem cls_eq {D : va_G} {cl : List vw_C} {tys : List (ClassId × FieldType)} {s : State} {c1 c2 : ClassId} (hK : va_K D cl tys s) (i j : Nat) (hi : tys[i]? = some (c1, .int)) (hj : tys[j]? = some (c2, .int)) : c1 = c2 := by
  have h1 : s.vm.findClass _ = some c1 := (hK.2 i _ hi).2
  have h2 : s.vm.findClass _ = some c2 := (hK.2 j _ hj).2
  exact Option.some.inj (h1.symm.trans h2)
/-- one cell of a world behind a call that got it alone -/
theorem fill_take {D : va_G} {cl : List vw_C} {tys : List (ClassId × FieldType)} {A B : Nat → Prop} {ws : va_W} {H H1 : Heap} {t : State} {k q : Nat} {x y : va_E} (hP : va_P D cl ws H) (hD : va_D A ws) (hk : ws[k]? = some (q, x)) (ht : t.heap = H1) (hk1 : ∀ z : Nat, z < H.size → ¬ va_A [(q, x)] H.size z → H1[z]? = H[z]?) (hB : va_P D cl [(q, y)] t.heap ∧ va_K D cl tys t ∧ va_D B [(q, y)]) : va_P D cl (ws.set k (q, y)) H1 ∧ va_D A (ws.set k (q, y)) := by
  refine ⟨fun j z hj => ?_, hD.set hk⟩
  by_cases e : j = k
  · subst e
    have hl : j < ws.length := (List.getElem?_eq_some_iff.mp hk).1
    rw [List.getElem?_set_self hl] at hj
    cases hj
    have h1 := hB.1 0 (q, y) rfl
    rw [ht] at h1
    exact h1
  · rw [List.getElem?_set_ne (Ne.symm e)] at hj
    have h1 := hP j z hj
    refine h1.kept (hk1 z.1 h1.lt ?_)
    rintro (⟨i, v, hi⟩ | h)
    · match i, hi with
      | 0, hi => cases hi; exact e (hD.1 j k z (z.1, x) hj hk rfl)
      | i + 1, hi => simp at hi
    · exact absurd h1.lt (Nat.not_lt.mpr h)
/-- how many shares -/
def szN (p : Int32) : Nat := (if 1 < (if p < 40 then p else 40) then (if p < 40 then p else 40) else 1).toNatClampNeg
theorem szN_in (p : Int32) : (if 1 < (if p < 40 then p else 40) then (if p < 40 then p else 40) else 1) = nI (szN p) ∧ 1 ≤ szN p ∧ szN p ≤ 40 := by
  obtain ⟨x, hx⟩ : ∃ x : Int32, x = (if 1 < (if p < 40 then p else 40) then (if p < 40 then p else 40) else 1) := ⟨_, rfl⟩
  have h1 : 1 ≤ x ∧ x ≤ 40 := by
    rw [hx]
    by_cases a : p < 40
    · rw [if_pos a]
      by_cases b : 1 < p
      · rw [if_pos b]; exact ⟨Int32.le_of_lt b, Int32.le_of_lt a⟩
      · rw [if_neg b]; exact ⟨Int32.le_refl _, by decide⟩
    · rw [if_neg a]; decide
  have h0 : ¬ x < 0 := by
    have := Int32.le_iff_toInt_le.mp h1.1
    intro q
    have q2 := Int32.lt_iff_toInt_lt.mp q
    have e1 : (1 : Int32).toInt = 1 := by decide
    have e0 : (0 : Int32).toInt = 0 := by decide
    omega
  obtain ⟨j, hj, hxj⟩ := nI_of h0
  have e : szN p = j := by
    unfold szN
    rw [← hx, hxj, nI_clamp hj]
  rw [← hx, e, hxj]
  rw [hxj] at h1
  have a1 := (nI_leI (a := 1) (b := j) (by omega) hj).mp h1.1
  have a2 := (nI_leI (a := j) (b := 40) hj (by omega)).mp h1.2
  exact ⟨rfl, a1, a2⟩
/-- a new object of n shares -/
def x0 (n : Nat) : xS := (n, fil (fun _ => 1) (fun _ => 0) n, fun _ => 0, fun _ => 0, fil (fun _ => 1) (fun _ => 0) n, fun _ => 0, fun _ => 0, fun _ => 0, fun _ => 0, fun _ => 0, fun _ => 0, -1, 0, 0, 0, 0, 0, 0, 0, 0)
def xok (u : xS) : Prop := match u with
  | (n, _, _, _, _, _, _, _, _, _, _, _, _, _, ct, _, _, _, _, _) => n ≤ 40 ∧ ct ≤ 24
/-! ===== the law's own row of one long beside the class ===== -/
abbrev WO (c0 cL : ClassId) (a : Nat → Nat) (o : Nat) (u : xS) (g : Nat → Int64) : va_W := (o, .inl (cL, 1, .inr (.inl g))) :: wX c0 a u
abbrev PW (dC : Nat → ClassId) (dI : Nat → Nat → Nat) (c0 cL : ClassId) (a : Nat → Nat) (o : Nat) (u : xS) (g : Nat → Int64) (sz : Nat) : State → Prop := fun U => U.heap.size = sz ∧ va_P (dC, dI) vwCl (WO c0 cL a o u g) U.heap ∧ va_K (dC, dI) vwCl [(c0, .int), (cL, .long)] U ∧ va_D (fun _ => True) (WO c0 cL a o u g) ∧ EV (va_A (WO c0 cL a o u g) sz) U U.heap
theorem dsw {A : Nat → Prop} {P Q : va_W} (h : va_D A (P ++ Q)) : va_D A (Q ++ P) := by
  have hl : va_D A P := ⟨fun i j p q hi hj e => h.1 i j p q (by rw [List.getElem?_append_left (List.getElem?_eq_some_iff.mp hi).1]; exact hi) (by rw [List.getElem?_append_left (List.getElem?_eq_some_iff.mp hj).1]; exact hj) e, fun k q hk => h.2 k q (by rw [List.getElem?_append_left (List.getElem?_eq_some_iff.mp hk).1]; exact hk)⟩
  have key : ∀ (k : Nat) (q : Nat × va_E), Q[k]? = some q → (P ++ Q)[P.length + k]? = some q := fun k q hk => by
    rw [List.getElem?_append_right (by omega), show P.length + k - P.length = k by omega]; exact hk
  have hr : va_D A Q := ⟨fun i j p q hi hj e => by have := h.1 _ _ p q (key i p hi) (key j q hj) e; omega, fun k q hk => h.2 _ q (key k q hk)⟩
  refine hr.app hl (fun i j p q hi hj e => ?_)
  have h1 := h.1 _ _ q p (by rw [List.getElem?_append_left (List.getElem?_eq_some_iff.mp hj).1]; exact hj) (key i p hi) e.symm
  have := (List.getElem?_eq_some_iff.mp hj).1
  omega
theorem dl {A : Nat → Prop} {P Q : va_W} (h : va_D A (P ++ Q)) : va_D A P := ⟨fun i j p q hi hj e => h.1 i j p q (by rw [List.getElem?_append_left (List.getElem?_eq_some_iff.mp hi).1]; exact hi) (by rw [List.getElem?_append_left (List.getElem?_eq_some_iff.mp hj).1]; exact hj) e, fun k q hk => h.2 k q (by rw [List.getElem?_append_left (List.getElem?_eq_some_iff.mp hk).1]; exact hk)⟩
theorem dr {A : Nat → Prop} {P Q : va_W} (h : va_D A (P ++ Q)) : va_D A Q := dl (dsw h)
/-- the rest Q behind a call that got the cells P -/
theorem jnL {D : va_G} {cl : List vw_C} {A : Nat → Prop} {P P2 Q : va_W} {H H1 : Heap} (hQ : va_P D cl Q H) (hD : va_D A (Q ++ P)) (hk : ∀ q : Nat, q < H.size → ¬ va_A P H.size q → H1[q]? = H[q]?) (hD1 : va_D (va_A P H.size) P2) (hF : ∀ q, va_A P H.size q → A q) : va_P D cl Q H1 ∧ va_D A (Q ++ P2) := by
  have hD2 := dsw hD
  have no : ∀ (k : Nat) (q : Nat × va_E), Q[k]? = some q → ¬ va_A P H.size q.1 := by
    intro k q hk9 h
    rcases h with ⟨j, e, hj⟩ | h
    · have h1 : (P ++ Q)[j]? = some (q.1, e) := by rw [List.getElem?_append_left (List.getElem?_eq_some_iff.mp hj).1]; exact hj
      have h2 : (P ++ Q)[P.length + k]? = some q := by rw [List.getElem?_append_right (by omega), show P.length + k - P.length = k by omega]; exact hk9
      have h3 := hD2.1 _ _ _ _ h1 h2 rfl
      have := (List.getElem?_eq_some_iff.mp hj).1
      omega
    · exact absurd (hQ k q hk9).lt (Nat.not_lt.mpr h)
  refine ⟨hQ.kept (fun k q hk9 => hk q.1 (hQ k q hk9).lt (no k q hk9)), ?_⟩
  refine (dl hD).app (hD1.weaken (fun _ q _ h => hF q.1 h)) (fun i j p q hi hj e => ?_)
  exact no i p hi (by rw [e]; exact hD1.2 j q hj)
theorem PW_blind {dC : Nat → ClassId} {dI : Nat → Nat → Nat} {c0 cL : ClassId} {a : Nat → Nat} {o : Nat} {u : xS} {g : Nat → Int64} {sz : Nat} {av : List Value} : FrameBlind (va_Pc av (PW dC dI c0 cL a o u g sz)) := fun a U g mk q => by
  obtain ⟨q0, q1, q2, q3, q4, q5⟩ := q
  exact ⟨q0, q1, q2, va_K.moved (u := U) (U := U.calling g mk a) (Vm.Alike.refl U.vm) q3, q4, q5.calling g mk a⟩
theorem PW_give {dC : Nat → ClassId} {dI : Nat → Nat → Nat} {c0 cL : ClassId} {a : Nat → Nat} {o : Nat} {u : xS} {g : Nat → Int64} {s : State} {H : Heap} {A : Nat → Prop} {locs : List Loc} {av : List Value} (hP : va_P (dC, dI) vwCl (WO c0 cL a o u g) H) (hK : va_K (dC, dI) vwCl [(c0, .int), (cL, .long)] s) (hD : va_D A (WO c0 cL a o u g)) (hE : EV A s s.heap) (hS : va_S A s.heap H locs) (hF : ∀ q, va_A (WO c0 cL a o u g) H.size q → A q) : ∀ U : State, U.heap = H → s.WarmedH U.vm → va_Pc av (PW dC dI c0 cL a o u g H.size) av.toArray U := fun U hU hW =>
  ⟨rfl, by rw [hU], by rw [hU]; exact hP, va_K.moved hW.alike hK, hD.weaken (fun _ _ _ _ => trivial), hE.give hS hF hU hW⟩
