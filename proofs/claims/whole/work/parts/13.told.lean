set_option maxHeartbeats 4000000 in
set_option maxRecDepth 100000 in
/-- Told.doAll(shares) -/
theorem c_X3_doAll (l : Launch) (dC : Nat → ClassId) (dI : Nat → Nat → Nat) (c0 : ClassId) (a : Nat → Nat) (sz : Nat) (n : Nat) (wk sd bt lt lo rk ad vl bg cm : Nat → Int32) (sp gd rf : Int32) (ct : Nat) (rd : Int32) (sm : Int64) (js sn wl : Int32) (hn : n ≤ 40) : Met l yX3_doAll wsX3_doAll ({ frames := 3, cells := 0, slots := 0, locals := 60 }) (va_Pc [.ref (a 3), .ref (a 1)] (PX dC dI c0 a (n, wk, sd, bt, lt, lo, rk, ad, vl, bg, cm, sp, gd, rf, ct, rd, sm, js, sn, wl) sz)) (va_Qv (fun (u : xS) => u = (n, wk, sd, bt, lt, lo, rk, ad, fil (fun j => lastV wk sd (nI j)) vl n, fil (fun j => lo j + 1) bg n, cm, sp, gd, rf, ct, 1, sm, js, sumL (fun j => swl wk lt lo (nI j)) n, wl)) (BX dC dI c0 a (va_A (wX c0 a (n, wk, sd, bt, lt, lo, rk, ad, vl, bg, cm, sp, gd, rf, ct, rd, sm, js, sn, wl)) sz)) (va_A (wX c0 a (n, wk, sd, bt, lt, lo, rk, ad, vl, bg, cm, sp, gd, rf, ct, rd, sm, js, sn, wl)) sz)) 0 0 (va_A (wX c0 a (n, wk, sd, bt, lt, lo, rk, ad, vl, bg, cm, sp, gd, rf, ct, rd, sm, js, sn, wl)) sz) := by
  refine Met.ofW (cc := cX3_doAll) (maxL := 3) (ret := none) (by decide) rfl ?_
  intro p e s m args below meth c s₁ B hml hv
  obtain ⟨rfl, hsz, hP, hK, hD0, hE⟩ := hv
  have hx := B.exec
  have hb := B.bytes
  have hr := B.returns
  have hown : s.vm.findClass RX3 = some m.cls := findClass_of_methodNamed B.named
  have hlocks := B.notSynchronized
  subst hsz
  have hD := hD0.self (sz := s.heap.size)
  generalize hAe : va_A (wX c0 a (n, wk, sd, bt, lt, lo, rk, ad, vl, bg, cm, sp, gd, rf, ct, rd, sm, js, sn, wl)) s.heap.size = A at hD hE ⊢
  have hts := hE.ts (args := ([.ref (a 3), .ref (a 1)] : List Value).toArray)
  have hA : ∀ q : Nat, s.heap.size ≤ q → A q := fun q h => by rw [← hAe]; exact Or.inr h
  have hS : va_S A s.heap s.heap [] := va_S.rf
  have hP : va_P (dC, dI) vwCl (wX c0 a (n, wk, sd, bt, lt, lo, rk, ad, vl, bg, cm, sp, gd, rf, ct, rd, sm, js, sn, wl)) s.heap := hP
  refine gz (P := fun Z => W p l e _ s m _ below meth c _ _ _ _ Z _) (fun Z hZ => ?_)
  show W p l e _ s m _ below meth c _ _ _ _ Z _
  have hl := lv_entry ([.ref (a 3), .ref (a 1)]) (n := 3) (Nat.le_of_ble_eq_true rfl)
  rw [lg_entry_eq]
  generalize (lg_sl ([.ref (a 3), .ref (a 1)]) ++ List.replicate (3 - (lg_sl ([.ref (a 3), .ref (a 1)])).length) Slot.unset).toArray = ls at hl ⊢
  have hl : lv_has ls 3 [(0, .ref (a 3)), (1, .ref (a 1))] := hl
  refine lv_aload_n hx hb dX3_doAll_0 rfl (lv_at hl 0 rfl) ?_
  refine lv_iconst (v := 1) hx hb dX3_doAll_1 (by decide) ?_
  refine va_put (D := (dC, dI)) (ci := 3) (v := .int 1) (ty := .boolean) (C := RX3) (T := TX3) (N := 8) hx hb hts inX3 tyX3 tyX3_ok nmX3 hown hK hP hD hS 3 rfl rfl 3 (by decide) (hE.t m_117 rfl) (fun _ h9 => h9) rfl (by decide +kernel) rfl rfl (Nat.le_of_ble_eq_true rfl) dX3_doAll_2 (fun H locs hP hD hS => ?_)
  have hP : va_P (dC, dI) vwCl (wX c0 a (n, wk, sd, bt, lt, lo, rk, ad, vl, bg, cm, sp, gd, rf, ct, 1, sm, js, sn, wl)) H := hP
  have hD : va_D A (wX c0 a (n, wk, sd, bt, lt, lo, rk, ad, vl, bg, cm, sp, gd, rf, ct, 1, sm, js, sn, wl)) := hD
  refine lv_aload_n hx hb dX3_doAll_5 rfl (lv_at hl 0 rfl) ?_
  refine lv_iconst (v := 0) hx hb dX3_doAll_6 (by decide) ?_
  refine va_put (D := (dC, dI)) (ci := 3) (v := .int 0) (ty := .int) (C := RX3) (T := TX3) (N := 8) hx hb hts inX3 tyX3 tyX3_ok nmX3 hown hK hP hD hS 3 rfl rfl 6 (by decide) (hE.t m_123 rfl) (fun _ h9 => h9) rfl (by decide +kernel) rfl rfl (Nat.le_of_ble_eq_true rfl) dX3_doAll_7 (fun H locs hP hD hS => ?_)
  have hP : va_P (dC, dI) vwCl (wX c0 a (n, wk, sd, bt, lt, lo, rk, ad, vl, bg, cm, sp, gd, rf, ct, 1, sm, js, 0, wl)) H := hP
  have hD : va_D A (wX c0 a (n, wk, sd, bt, lt, lo, rk, ad, vl, bg, cm, sp, gd, rf, ct, 1, sm, js, 0, wl)) := hD
  refine lv_iconst (v := 0) hx hb dX3_doAll_10 (by decide) ?_
  refine lv_istore_n (lv' := [(2, .int 0), (0, .ref (a 3)), (1, .ref (a 1))]) hx hb dX3_doAll_11 rfl hl (by decide) rfl (fun ls hl => ?_)
  have hloop12 : ∀ (fu : Nat) (i : Nat), n + 1 ≤ i + fu → i ≤ n → ∀ (H : Heap) (locs : List Loc) (ls : Array Slot), va_P (dC, dI) vwCl (wX c0 a (n, wk, sd, bt, lt, lo, rk, ad, fil (fun j => lastV wk sd (nI j)) vl i, fil (fun j => lo j + 1) bg i, cm, sp, gd, rf, ct, 1, sm, js, sumL (fun j => swl wk lt lo (nI j)) i, wl)) H → va_D A (wX c0 a (n, wk, sd, bt, lt, lo, rk, ad, fil (fun j => lastV wk sd (nI j)) vl i, fil (fun j => lo j + 1) bg i, cm, sp, gd, rf, ct, 1, sm, js, sumL (fun j => swl wk lt lo (nI j)) i, wl)) → va_S A s.heap H locs → lv_has ls 3 [(0, .ref (a 3)), (1, .ref (a 1)), (2, .int (nI i))] → W p l e (headSpec wsX3_doAll ({ frames := 3, cells := 0, slots := 0, locals := 60 })).room s m ([.ref (a 3), .ref (a 1)] : List Value).toArray below meth c H locs 0 0 Z (F0 m 12 ls []) := by
    intro fu
    induction fu with
    | zero =>
      intro i hfu hi
      exact absurd hfu (by omega)
    | succ fu ih12 =>
      intro i hfu hi H locs ls hP hD hS hl
      refine lv_iload_n hx hb dX3_doAll_12 rfl (lv_at hl 2 rfl) ?_
      refine lv_aload_n hx hb dX3_doAll_13 rfl (lv_at hl 1 rfl) ?_
      refine va_getN (D := (dC, dI)) (ci := 1) (v := .int (nI n)) (C := RX1) (T := TX1) (N := 6) hx hb hts inX1 hown hK hP 1 rfl rfl 0 (by decide) (hE.t m_58 rfl) (fun _ h9 => h9) rfl dX3_doAll_14 ?_
      refine lv_icmp_ge (tgt := 65) hx hb dX3_doAll_17 (by decide) (fun c_17 => ?_) (fun c_17 => ?_)
      · skip
        have hie : i = n := by
          have h9 := (nI_leI (a := n) (b := i) (by omega) (by omega)).mp c_17
          omega
        rw [hie] at hP hD hl
        rw [hZ]
        exact W.vret hx hb hr (fun t ht hW => ⟨⟨(n, wk, sd, bt, lt, lo, rk, ad, fil (fun j => lastV wk sd (nI j)) vl n, fil (fun j => lo j + 1) bg n, cm, sp, gd, rf, ct, 1, sm, js, sumL (fun j => swl wk lt lo (nI j)) n, wl), rfl, rfl, by rw [ht]; exact hP, va_K.moved hW.alike hK, hD⟩, hS.F ht⟩) hS.2.2 dX3_doAll_65
      · skip
        have hlt : i < n := by
          rcases Nat.lt_or_ge i n with h9 | h9
          · exact h9
          · exact absurd (nI_le h9 (by omega)) c_17
        refine lv_aload_n hx hb dX3_doAll_20 rfl (lv_at hl 0 rfl) ?_
        refine va_get (D := (dC, dI)) (ci := 3) (v := .ref (a 11)) (C := RX3) (T := TX3) (N := 8) hx hb hts inX3 hown hK hP 3 rfl rfl 0 (by decide) (hE.t m_111 rfl) (fun _ h9 => h9) rfl dX3_doAll_21 ?_
        refine lv_iload_n hx hb dX3_doAll_24 rfl (lv_at hl 2 rfl) ?_
        refine lv_aload_n hx hb dX3_doAll_25 rfl (lv_at hl 1 rfl) ?_
        refine lv_iload_n hx hb dX3_doAll_26 rfl (lv_at hl 2 rfl) ?_
        have hFc := fre hD hS hA
        refine va_calli (va_runVN (As := [.int (nI i)]) (rest := [.int (nI i), .ref (a 11)]) ⟨hx, hb, hml, hown, hts⟩ (c_X1_lastValue l dC dI c0 a _ n wk sd bt lt lo rk ad (fil (fun j => lastV wk sd (nI j)) vl i) (fil (fun j => lo j + 1) bg i) cm sp gd rf ct 1 sm js (sumL (fun j => swl wk lt lo (nI j)) i) wl (nI i) (vp_in_nI (by omega) (by omega))) ⟨va_cnB (host := "DrawShares") 1 hts gX3_doAll_X1_lastValue rfl rfl rfl (hE.t0 m_324 rfl) (hE.t m_23 rfl) (by decide +kernel) ⟨(Nat.le_of_ble_eq_true rfl), (Nat.le_of_ble_eq_true rfl)⟩, hE.t m_326 rfl, hE.t m_5 rfl⟩ ⟨PX_blind, va_recv hK hP (ci := 1) (q0 := 1) rfl rfl, PX_give hP hK hD hE hS hFc⟩ rfl rfl hl.1 rfl (lv_room (Nat.le_of_ble_eq_true rfl)) dX3_doAll_27 ⟨by decide, by decide⟩) hS (fun q _ h => hFc q h) hFc (fun r_27 u t H1 locs ht hvm hw hB hz1 hk1 hS => ?_)
        obtain ⟨rfl, rfl⟩ := hw
        obtain ⟨hP, hD⟩ := PX_take ht hFc hB
        generalize H1 = H at hP hS ⊢
        have hP : va_P (dC, dI) vwCl (wX c0 a (n, wk, sd, bt, lt, lo, rk, ad, fil (fun j => lastV wk sd (nI j)) vl i, fil (fun j => lo j + 1) bg i, cm, sp, gd, rf, ct, 1, sm, js, sumL (fun j => swl wk lt lo (nI j)) i, wl)) H := hP
        have hD : va_D A (wX c0 a (n, wk, sd, bt, lt, lo, rk, ad, fil (fun j => lastV wk sd (nI j)) vl i, fil (fun j => lo j + 1) bg i, cm, sp, gd, rf, ct, 1, sm, js, sumL (fun j => swl wk lt lo (nI j)) i, wl)) := hD
        refine va_iast hx hb hK hP hD hS 11 0 rfl rfl (vp_in_nI (by omega) (by omega)) dX3_doAll_30 (fun H locs hP hD hS => ?_)
        rw [nI_clamp (n := i) (by omega)] at hP hD
        have hP : va_P (dC, dI) vwCl (wX c0 a (n, wk, sd, bt, lt, lo, rk, ad, upd (fil (fun j => lastV wk sd (nI j)) vl i) i (lastV wk sd (nI i)), fil (fun j => lo j + 1) bg i, cm, sp, gd, rf, ct, 1, sm, js, sumL (fun j => swl wk lt lo (nI j)) i, wl)) H := hP
        have hD : va_D A (wX c0 a (n, wk, sd, bt, lt, lo, rk, ad, upd (fil (fun j => lastV wk sd (nI j)) vl i) i (lastV wk sd (nI i)), fil (fun j => lo j + 1) bg i, cm, sp, gd, rf, ct, 1, sm, js, sumL (fun j => swl wk lt lo (nI j)) i, wl)) := hD
        refine lv_aload_n hx hb dX3_doAll_31 rfl (lv_at hl 0 rfl) ?_
        refine va_get (D := (dC, dI)) (ci := 3) (v := .ref (a 12)) (C := RX3) (T := TX3) (N := 8) hx hb hts inX3 hown hK hP 3 rfl rfl 1 (by decide) (hE.t m_113 rfl) (fun _ h9 => h9) rfl dX3_doAll_32 ?_
        refine lv_iload_n hx hb dX3_doAll_35 rfl (lv_at hl 2 rfl) ?_
        refine lv_aload_n hx hb dX3_doAll_36 rfl (lv_at hl 1 rfl) ?_
        refine va_getN (D := (dC, dI)) (ci := 1) (v := .ref (a 8)) (C := RX1) (T := TX1) (N := 6) hx hb hts inX1 hown hK hP 1 rfl rfl 5 (by decide) (hE.t m_69 rfl) (fun _ h9 => h9) rfl dX3_doAll_37 ?_
        refine lv_iload_n hx hb dX3_doAll_40 rfl (lv_at hl 2 rfl) ?_
        refine va_iald hx hb hK hP 8 0 rfl rfl (vp_in_nI (by omega) (by omega)) dX3_doAll_41 ?_
        rw [nI_clamp (n := i) (by omega)]
        refine lv_iconst (v := 1) hx hb dX3_doAll_42 (by decide) ?_
        refine lv_iadd hx hb dX3_doAll_43 ?_
        refine va_iast hx hb hK hP hD hS 12 0 rfl rfl (vp_in_nI (by omega) (by omega)) dX3_doAll_44 (fun H locs hP hD hS => ?_)
        rw [nI_clamp (n := i) (by omega)] at hP hD
        have hP : va_P (dC, dI) vwCl (wX c0 a (n, wk, sd, bt, lt, lo, rk, ad, upd (fil (fun j => lastV wk sd (nI j)) vl i) i (lastV wk sd (nI i)), upd (fil (fun j => lo j + 1) bg i) i ((lo i) + 1), cm, sp, gd, rf, ct, 1, sm, js, sumL (fun j => swl wk lt lo (nI j)) i, wl)) H := hP
        have hD : va_D A (wX c0 a (n, wk, sd, bt, lt, lo, rk, ad, upd (fil (fun j => lastV wk sd (nI j)) vl i) i (lastV wk sd (nI i)), upd (fil (fun j => lo j + 1) bg i) i ((lo i) + 1), cm, sp, gd, rf, ct, 1, sm, js, sumL (fun j => swl wk lt lo (nI j)) i, wl)) := hD
        refine lv_aload_n hx hb dX3_doAll_45 rfl (lv_at hl 0 rfl) ?_
        refine lv_dup hx hb dX3_doAll_46 rfl ?_
        refine va_get (D := (dC, dI)) (ci := 3) (v := .int (sumL (fun j => swl wk lt lo (nI j)) i)) (C := RX3) (T := TX3) (N := 8) hx hb hts inX3 hown hK hP 3 rfl rfl 6 (by decide) (hE.t m_123 rfl) (fun _ h9 => h9) rfl dX3_doAll_47 ?_
        refine lv_aload_n hx hb dX3_doAll_50 rfl (lv_at hl 1 rfl) ?_
        refine lv_iload_n hx hb dX3_doAll_51 rfl (lv_at hl 2 rfl) ?_
        have hFc := fre hD hS hA
        refine va_calli (va_runVN (As := [.int (nI i)]) (rest := [.int (sumL (fun j => swl wk lt lo (nI j)) i), .ref (a 3)]) ⟨hx, hb, hml, hown, hts⟩ (c_X1_stepsWithLosses l dC dI c0 a _ n wk sd bt lt lo rk ad (upd (fil (fun j => lastV wk sd (nI j)) vl i) i (lastV wk sd (nI i))) (upd (fil (fun j => lo j + 1) bg i) i ((lo i) + 1)) cm sp gd rf ct 1 sm js (sumL (fun j => swl wk lt lo (nI j)) i) wl (nI i) (vp_in_nI (by omega) (by omega))) ⟨va_cnB (host := "DrawShares") 1 hts gX3_doAll_X1_stepsWithLosses rfl rfl rfl (hE.t0 m_335 rfl) (hE.t m_23 rfl) (by decide +kernel) ⟨(Nat.le_of_ble_eq_true rfl), (Nat.le_of_ble_eq_true rfl)⟩, hE.t m_337 rfl, hE.t m_7 rfl⟩ ⟨PX_blind, va_recv hK hP (ci := 1) (q0 := 1) rfl rfl, PX_give hP hK hD hE hS hFc⟩ rfl rfl hl.1 rfl (lv_room (Nat.le_of_ble_eq_true rfl)) dX3_doAll_52 ⟨by decide, by decide⟩) hS (fun q _ h => hFc q h) hFc (fun r_52 u t H1 locs ht hvm hw hB hz1 hk1 hS => ?_)
        obtain ⟨rfl, rfl⟩ := hw
        obtain ⟨hP, hD⟩ := PX_take ht hFc hB
        generalize H1 = H at hP hS ⊢
        have hP : va_P (dC, dI) vwCl (wX c0 a (n, wk, sd, bt, lt, lo, rk, ad, upd (fil (fun j => lastV wk sd (nI j)) vl i) i (lastV wk sd (nI i)), upd (fil (fun j => lo j + 1) bg i) i ((lo i) + 1), cm, sp, gd, rf, ct, 1, sm, js, sumL (fun j => swl wk lt lo (nI j)) i, wl)) H := hP
        have hD : va_D A (wX c0 a (n, wk, sd, bt, lt, lo, rk, ad, upd (fil (fun j => lastV wk sd (nI j)) vl i) i (lastV wk sd (nI i)), upd (fil (fun j => lo j + 1) bg i) i ((lo i) + 1), cm, sp, gd, rf, ct, 1, sm, js, sumL (fun j => swl wk lt lo (nI j)) i, wl)) := hD
        refine lv_iadd hx hb dX3_doAll_55 ?_
        refine va_put (D := (dC, dI)) (ci := 3) (v := .int ((sumL (fun j => swl wk lt lo (nI j)) i) + (swl wk lt lo (nI i)))) (ty := .int) (C := RX3) (T := TX3) (N := 8) hx hb hts inX3 tyX3 tyX3_ok nmX3 hown hK hP hD hS 3 rfl rfl 6 (by decide) (hE.t m_123 rfl) (fun _ h9 => h9) rfl (by decide +kernel) rfl rfl (Nat.le_of_ble_eq_true rfl) dX3_doAll_56 (fun H locs hP hD hS => ?_)
        have hP : va_P (dC, dI) vwCl (wX c0 a (n, wk, sd, bt, lt, lo, rk, ad, upd (fil (fun j => lastV wk sd (nI j)) vl i) i (lastV wk sd (nI i)), upd (fil (fun j => lo j + 1) bg i) i ((lo i) + 1), cm, sp, gd, rf, ct, 1, sm, js, (sumL (fun j => swl wk lt lo (nI j)) i) + (swl wk lt lo (nI i)), wl)) H := hP
        have hD : va_D A (wX c0 a (n, wk, sd, bt, lt, lo, rk, ad, upd (fil (fun j => lastV wk sd (nI j)) vl i) i (lastV wk sd (nI i)), upd (fil (fun j => lo j + 1) bg i) i ((lo i) + 1), cm, sp, gd, rf, ct, 1, sm, js, (sumL (fun j => swl wk lt lo (nI j)) i) + (swl wk lt lo (nI i)), wl)) := hD
        refine lv_iinc (v := nI (i + 1)) (lv' := [(2, .int (nI (i + 1))), (0, .ref (a 3)), (1, .ref (a 1))]) hx hb dX3_doAll_59 hl (k := 2) rfl (by rw [← nI_1]; rfl) (by decide) rfl (fun ls hl => ?_)
        refine lv_goto (tgt := 12) hx hb dX3_doAll_62 (by decide) ?_
        exact ih12 (i + 1) (by omega) (by omega) _ _ _ hP hD hS (lv_sub hl [1, 2, 0] rfl)
  have hl0 : lv_has ls 3 [(0, .ref (a 3)), (1, .ref (a 1)), (2, .int (nI 0))] := by
    rw [nI_0]; exact lv_sub hl [1, 2, 0] rfl
  exact hloop12 (n + 1) 0 (by omega) (by omega) _ _ _ hP hD hS hl0
set_option maxHeartbeats 4000000 in
set_option maxRecDepth 100000 in
/-- Told.letIn(acts, r) -/
theorem c_X3_letIn (l : Launch) (dC : Nat → ClassId) (dI : Nat → Nat → Nat) (c0 : ClassId) (a : Nat → Nat) (sz : Nat) (n : Nat) (wk sd bt lt lo rk ad vl bg cm : Nat → Int32) (sp gd rf : Int32) (ct : Nat) (rd : Int32) (sm : Int64) (js sn wl : Int32) (x : Int32) (hct : ct ≤ 24) : Met l yX3_letIn wsX3_letIn ({ frames := 0, cells := 0, slots := 0, locals := 0 }) (va_Pc [.ref (a 3), .ref (a 2), .int x] (PX dC dI c0 a (n, wk, sd, bt, lt, lo, rk, ad, vl, bg, cm, sp, gd, rf, ct, rd, sm, js, sn, wl) sz)) (va_Qv (fun (u : xS) => u = (n, wk, sd, bt, lt, lo, rk, ad, vl, bg, linC rk x cm ct, sp, gd, rf, ct, rd, linS rk ad x sm ct, js, sn, wl)) (BX dC dI c0 a (va_A (wX c0 a (n, wk, sd, bt, lt, lo, rk, ad, vl, bg, cm, sp, gd, rf, ct, rd, sm, js, sn, wl)) sz)) (va_A (wX c0 a (n, wk, sd, bt, lt, lo, rk, ad, vl, bg, cm, sp, gd, rf, ct, rd, sm, js, sn, wl)) sz)) 0 0 (va_A (wX c0 a (n, wk, sd, bt, lt, lo, rk, ad, vl, bg, cm, sp, gd, rf, ct, rd, sm, js, sn, wl)) sz) := by
  refine Met.ofW (cc := cX3_letIn) (maxL := 4) (ret := none) (by decide) rfl ?_
  intro p e s m args below meth c s₁ B hml hv
  obtain ⟨rfl, hsz, hP, hK, hD0, hE⟩ := hv
  have hx := B.exec
  have hb := B.bytes
  have hr := B.returns
  have hown : s.vm.findClass RX3 = some m.cls := findClass_of_methodNamed B.named
  have hlocks := B.notSynchronized
  subst hsz
  have hD := hD0.self (sz := s.heap.size)
  generalize hAe : va_A (wX c0 a (n, wk, sd, bt, lt, lo, rk, ad, vl, bg, cm, sp, gd, rf, ct, rd, sm, js, sn, wl)) s.heap.size = A at hD hE ⊢
  have hts := hE.ts (args := ([.ref (a 3), .ref (a 2), .int x] : List Value).toArray)
  have hA : ∀ q : Nat, s.heap.size ≤ q → A q := fun q h => by rw [← hAe]; exact Or.inr h
  have hS : va_S A s.heap s.heap [] := va_S.rf
  have hP : va_P (dC, dI) vwCl (wX c0 a (n, wk, sd, bt, lt, lo, rk, ad, vl, bg, cm, sp, gd, rf, ct, rd, sm, js, sn, wl)) s.heap := hP
  refine gz (P := fun Z => W p l e _ s m _ below meth c _ _ _ _ Z _) (fun Z hZ => ?_)
  show W p l e _ s m _ below meth c _ _ _ _ Z _
  have hl := lv_entry ([.ref (a 3), .ref (a 2), .int x]) (n := 4) (Nat.le_of_ble_eq_true rfl)
  rw [lg_entry_eq]
  generalize (lg_sl ([.ref (a 3), .ref (a 2), .int x]) ++ List.replicate (4 - (lg_sl ([.ref (a 3), .ref (a 2), .int x])).length) Slot.unset).toArray = ls at hl ⊢
  have hl : lv_has ls 4 [(0, .ref (a 3)), (1, .ref (a 2)), (2, .int x)] := hl
  refine lv_iconst (v := 0) hx hb dX3_letIn_0 (by decide) ?_
  refine lv_istore_n (lv' := [(3, .int 0), (0, .ref (a 3)), (1, .ref (a 2)), (2, .int x)]) hx hb dX3_letIn_1 rfl hl (by decide) rfl (fun ls hl => ?_)
  have hloop2 : ∀ (fu : Nat) (i : Nat), ct + 1 ≤ i + fu → i ≤ ct → ∀ (H : Heap) (locs : List Loc) (ls : Array Slot), va_P (dC, dI) vwCl (wX c0 a (n, wk, sd, bt, lt, lo, rk, ad, vl, bg, linC rk x cm i, sp, gd, rf, ct, rd, linS rk ad x sm i, js, sn, wl)) H → va_D A (wX c0 a (n, wk, sd, bt, lt, lo, rk, ad, vl, bg, linC rk x cm i, sp, gd, rf, ct, rd, linS rk ad x sm i, js, sn, wl)) → va_S A s.heap H locs → lv_has ls 4 [(0, .ref (a 3)), (1, .ref (a 2)), (2, .int x), (3, .int (nI i))] → W p l e (headSpec wsX3_letIn ({ frames := 0, cells := 0, slots := 0, locals := 0 })).room s m ([.ref (a 3), .ref (a 2), .int x] : List Value).toArray below meth c H locs 0 0 Z (F0 m 2 ls []) := by
    intro fu
    induction fu with
    | zero =>
      intro i hfu hi
      exact absurd hfu (by omega)
    | succ fu ih2 =>
      intro i hfu hi H locs ls hP hD hS hl
      refine lv_iload_n hx hb dX3_letIn_2 rfl (lv_at hl 3 rfl) ?_
      refine lv_aload_n hx hb dX3_letIn_3 rfl (lv_at hl 1 rfl) ?_
      refine va_getN (D := (dC, dI)) (ci := 2) (v := .int (nI ct)) (C := RX2) (T := TX2) (N := 3) hx hb hts inX2 hown hK hP 2 rfl rfl 2 (by decide) (hE.t m_96 rfl) (fun _ h9 => h9) rfl dX3_letIn_4 ?_
      refine lv_icmp_ge (tgt := 53) hx hb dX3_letIn_7 (by decide) (fun c_7 => ?_) (fun c_7 => ?_)
      · skip
        have hie : i = ct := by
          have h9 := (nI_leI (a := ct) (b := i) (by omega) (by omega)).mp c_7
          omega
        rw [hie] at hP hD hl
        rw [hZ]
        exact W.vret hx hb hr (fun t ht hW => ⟨⟨(n, wk, sd, bt, lt, lo, rk, ad, vl, bg, linC rk x cm ct, sp, gd, rf, ct, rd, linS rk ad x sm ct, js, sn, wl), rfl, rfl, by rw [ht]; exact hP, va_K.moved hW.alike hK, hD⟩, hS.F ht⟩) hS.2.2 dX3_letIn_53
      · skip
        have hlt : i < ct := by
          rcases Nat.lt_or_ge i ct with h9 | h9
          · exact h9
          · exact absurd (nI_le h9 (by omega)) c_7
        refine lv_aload_n hx hb dX3_letIn_10 rfl (lv_at hl 1 rfl) ?_
        refine va_getN (D := (dC, dI)) (ci := 2) (v := .ref (a 9)) (C := RX2) (T := TX2) (N := 3) hx hb hts inX2 hown hK hP 2 rfl rfl 0 (by decide) (hE.t m_92 rfl) (fun _ h9 => h9) rfl dX3_letIn_11 ?_
        refine lv_iload_n hx hb dX3_letIn_14 rfl (lv_at hl 3 rfl) ?_
        refine va_iald hx hb hK hP 9 0 rfl rfl (vp_in_nI (by omega) (by omega)) dX3_letIn_15 ?_
        rw [nI_clamp (n := i) (by omega)]
        refine lv_iload_n hx hb dX3_letIn_16 rfl (lv_at hl 2 rfl) ?_
        refine lv_icmp_ne (tgt := 47) hx hb dX3_letIn_17 (by decide) (fun c_17 => ?_) (fun c_17 => ?_)
        · skip
          refine lv_iinc (v := nI (i + 1)) (lv' := [(3, .int (nI (i + 1))), (0, .ref (a 3)), (1, .ref (a 2)), (2, .int x)]) hx hb dX3_letIn_47 hl (k := 3) rfl (by rw [← nI_1]; rfl) (by decide) rfl (fun ls hl => ?_)
          refine lv_goto (tgt := 2) hx hb dX3_letIn_50 (by decide) ?_
          have e1 : linS rk ad x sm (i + 1) = linS rk ad x sm i := by simp only [linS, c_17, ↓reduceIte]
          have e2 : linC rk x cm (i + 1) = linC rk x cm i := by simp only [linC, c_17, ↓reduceIte]
          rw [← e1, ← e2] at hP hD
          exact ih2 (i + 1) (by omega) (by omega) _ _ _ hP hD hS (lv_sub hl [1, 2, 3, 0] rfl)
        · skip
          refine lv_aload_n hx hb dX3_letIn_20 rfl (lv_at hl 0 rfl) ?_
          refine lv_ldc2 hx hb (own := RX3) (v := 31) hown (hE.t m_349 rfl) dX3_letIn_21 ?_
          refine lv_aload_n hx hb dX3_letIn_24 rfl (lv_at hl 0 rfl) ?_
          refine va_get (D := (dC, dI)) (ci := 3) (v := .long (linS rk ad x sm i)) (C := RX3) (T := TX3) (N := 8) hx hb hts inX3 hown hK hP 3 rfl rfl 4 (by decide) (hE.t m_119 rfl) (fun _ h9 => h9) rfl dX3_letIn_25 ?_
          refine lv_lmul hx hb dX3_letIn_28 ?_
          refine lv_aload_n hx hb dX3_letIn_29 rfl (lv_at hl 1 rfl) ?_
          refine va_getN (D := (dC, dI)) (ci := 2) (v := .ref (a 10)) (C := RX2) (T := TX2) (N := 3) hx hb hts inX2 hown hK hP 2 rfl rfl 1 (by decide) (hE.t m_94 rfl) (fun _ h9 => h9) rfl dX3_letIn_30 ?_
          refine lv_iload_n hx hb dX3_letIn_33 rfl (lv_at hl 3 rfl) ?_
          refine va_iald hx hb hK hP 10 0 rfl rfl (vp_in_nI (by omega) (by omega)) dX3_letIn_34 ?_
          rw [nI_clamp (n := i) (by omega)]
          refine lv_i2l hx hb dX3_letIn_35 (v := (ad i).toInt64) rfl ?_
          refine lv_ladd hx hb dX3_letIn_36 ?_
          refine va_put (D := (dC, dI)) (ci := 3) (v := .long ((31 * (linS rk ad x sm i)) + ((ad i).toInt64))) (ty := .long) (C := RX3) (T := TX3) (N := 8) hx hb hts inX3 tyX3 tyX3_ok nmX3 hown hK hP hD hS 3 rfl rfl 4 (by decide) (hE.t m_119 rfl) (fun _ h9 => h9) rfl (by decide +kernel) rfl rfl (Nat.le_of_ble_eq_true rfl) dX3_letIn_37 (fun H locs hP hD hS => ?_)
          have hP : va_P (dC, dI) vwCl (wX c0 a (n, wk, sd, bt, lt, lo, rk, ad, vl, bg, linC rk x cm i, sp, gd, rf, ct, rd, (31 * (linS rk ad x sm i)) + ((ad i).toInt64), js, sn, wl)) H := hP
          have hD : va_D A (wX c0 a (n, wk, sd, bt, lt, lo, rk, ad, vl, bg, linC rk x cm i, sp, gd, rf, ct, rd, (31 * (linS rk ad x sm i)) + ((ad i).toInt64), js, sn, wl)) := hD
          refine lv_aload_n hx hb dX3_letIn_40 rfl (lv_at hl 0 rfl) ?_
          refine va_get (D := (dC, dI)) (ci := 3) (v := .ref (a 13)) (C := RX3) (T := TX3) (N := 8) hx hb hts inX3 hown hK hP 3 rfl rfl 2 (by decide) (hE.t m_115 rfl) (fun _ h9 => h9) rfl dX3_letIn_41 ?_
          refine lv_iload_n hx hb dX3_letIn_44 rfl (lv_at hl 3 rfl) ?_
          refine lv_iload_n hx hb dX3_letIn_45 rfl (lv_at hl 2 rfl) ?_
          refine va_iast hx hb hK hP hD hS 13 0 rfl rfl (vp_in_nI (by omega) (by omega)) dX3_letIn_46 (fun H locs hP hD hS => ?_)
          rw [nI_clamp (n := i) (by omega)] at hP hD
          have hP : va_P (dC, dI) vwCl (wX c0 a (n, wk, sd, bt, lt, lo, rk, ad, vl, bg, upd (linC rk x cm i) i x, sp, gd, rf, ct, rd, (31 * (linS rk ad x sm i)) + ((ad i).toInt64), js, sn, wl)) H := hP
          have hD : va_D A (wX c0 a (n, wk, sd, bt, lt, lo, rk, ad, vl, bg, upd (linC rk x cm i) i x, sp, gd, rf, ct, rd, (31 * (linS rk ad x sm i)) + ((ad i).toInt64), js, sn, wl)) := hD
          refine lv_iinc (v := nI (i + 1)) (lv' := [(3, .int (nI (i + 1))), (0, .ref (a 3)), (1, .ref (a 2)), (2, .int x)]) hx hb dX3_letIn_47 hl (k := 3) rfl (by rw [← nI_1]; rfl) (by decide) rfl (fun ls hl => ?_)
          refine lv_goto (tgt := 2) hx hb dX3_letIn_50 (by decide) ?_
          have e1 : linS rk ad x sm (i + 1) = (31 * (linS rk ad x sm i)) + ((ad i).toInt64) := by simp only [linS, c_17, ↓reduceIte]
          have e2 : linC rk x cm (i + 1) = upd (linC rk x cm i) i x := by simp only [linC, c_17, ↓reduceIte]
          rw [← e1, ← e2] at hP hD
          exact ih2 (i + 1) (by omega) (by omega) _ _ _ hP hD hS (lv_sub hl [1, 2, 3, 0] rfl)
  have hl0 : lv_has ls 4 [(0, .ref (a 3)), (1, .ref (a 2)), (2, .int x), (3, .int (nI 0))] := by
    rw [nI_0]; exact lv_sub hl [1, 2, 3, 0] rfl
  exact hloop2 (ct + 1) 0 (by omega) (by omega) _ _ _ hP hD hS hl0
set_option maxHeartbeats 4000000 in
set_option maxRecDepth 100000 in
/-- Told.joinAll(shares, acts, z) -/
theorem c_X3_joinAll (l : Launch) (dC : Nat → ClassId) (dI : Nat → Nat → Nat) (c0 : ClassId) (a : Nat → Nat) (sz : Nat) (n : Nat) (wk sd bt lt lo rk ad vl bg cm : Nat → Int32) (sp gd rf : Int32) (ct : Nat) (rd : Int32) (sm : Int64) (js sn wl : Int32) (z : Int32) (hn : n ≤ 40) (hct : ct ≤ 24) : Met l yX3_joinAll wsX3_joinAll ({ frames := 2, cells := 0, slots := 0, locals := 60 }) (va_Pc [.ref (a 3), .ref (a 1), .ref (a 2), .int z] (PX dC dI c0 a (n, wk, sd, bt, lt, lo, rk, ad, vl, bg, cm, sp, gd, rf, ct, rd, sm, js, sn, wl) sz)) (va_Qi (fun (r : Int32) (u : xS) => ∃ (s9 : Int64) (c9 : Nat → Int32) (j9 : Nat), jnE bt rk ad vl (fil (fun _ => (-1)) cm 24) ct n z n 0 = (r, s9, c9, j9) ∧ u = (n, wk, sd, bt, lt, lo, rk, ad, vl, bg, c9, sp, gd, rf, ct, rd, s9, nI j9, sn, wl)) (BX dC dI c0 a (va_A (wX c0 a (n, wk, sd, bt, lt, lo, rk, ad, vl, bg, cm, sp, gd, rf, ct, rd, sm, js, sn, wl)) sz)) (va_A (wX c0 a (n, wk, sd, bt, lt, lo, rk, ad, vl, bg, cm, sp, gd, rf, ct, rd, sm, js, sn, wl)) sz)) 0 0 (va_A (wX c0 a (n, wk, sd, bt, lt, lo, rk, ad, vl, bg, cm, sp, gd, rf, ct, rd, sm, js, sn, wl)) sz) := by
  refine Met.ofW (cc := cX3_joinAll) (maxL := 5) (ret := (some .int)) (by decide) rfl ?_
  intro p e s m args below meth c s₁ B hml hv
  obtain ⟨rfl, hsz, hP, hK, hD0, hE⟩ := hv
  have hx := B.exec
  have hb := B.bytes
  have hr := B.returns
  have hown : s.vm.findClass RX3 = some m.cls := findClass_of_methodNamed B.named
  have hlocks := B.notSynchronized
  subst hsz
  have hD := hD0.self (sz := s.heap.size)
  generalize hAe : va_A (wX c0 a (n, wk, sd, bt, lt, lo, rk, ad, vl, bg, cm, sp, gd, rf, ct, rd, sm, js, sn, wl)) s.heap.size = A at hD hE ⊢
  have hts := hE.ts (args := ([.ref (a 3), .ref (a 1), .ref (a 2), .int z] : List Value).toArray)
  have hA : ∀ q : Nat, s.heap.size ≤ q → A q := fun q h => by rw [← hAe]; exact Or.inr h
  have hS : va_S A s.heap s.heap [] := va_S.rf
  have hP : va_P (dC, dI) vwCl (wX c0 a (n, wk, sd, bt, lt, lo, rk, ad, vl, bg, cm, sp, gd, rf, ct, rd, sm, js, sn, wl)) s.heap := hP
  refine gz (P := fun Z => W p l e _ s m _ below meth c _ _ _ _ Z _) (fun Z hZ => ?_)
  show W p l e _ s m _ below meth c _ _ _ _ Z _
  have hl := lv_entry ([.ref (a 3), .ref (a 1), .ref (a 2), .int z]) (n := 5) (Nat.le_of_ble_eq_true rfl)
  rw [lg_entry_eq]
  generalize (lg_sl ([.ref (a 3), .ref (a 1), .ref (a 2), .int z]) ++ List.replicate (5 - (lg_sl ([.ref (a 3), .ref (a 1), .ref (a 2), .int z])).length) Slot.unset).toArray = ls at hl ⊢
  have hl : lv_has ls 5 [(0, .ref (a 3)), (1, .ref (a 1)), (2, .ref (a 2)), (3, .int z)] := hl
  refine lv_aload_n hx hb dX3_joinAll_0 rfl (lv_at hl 0 rfl) ?_
  refine lv_lconst (v := 0) hx hb dX3_joinAll_1 (by decide) ?_
  refine va_put (D := (dC, dI)) (ci := 3) (v := .long 0) (ty := .long) (C := RX3) (T := TX3) (N := 8) hx hb hts inX3 tyX3 tyX3_ok nmX3 hown hK hP hD hS 3 rfl rfl 4 (by decide) (hE.t m_119 rfl) (fun _ h9 => h9) rfl (by decide +kernel) rfl rfl (Nat.le_of_ble_eq_true rfl) dX3_joinAll_2 (fun H locs hP hD hS => ?_)
  have hP : va_P (dC, dI) vwCl (wX c0 a (n, wk, sd, bt, lt, lo, rk, ad, vl, bg, cm, sp, gd, rf, ct, rd, 0, js, sn, wl)) H := hP
  have hD : va_D A (wX c0 a (n, wk, sd, bt, lt, lo, rk, ad, vl, bg, cm, sp, gd, rf, ct, rd, 0, js, sn, wl)) := hD
  refine lv_aload_n hx hb dX3_joinAll_5 rfl (lv_at hl 0 rfl) ?_
  refine lv_iconst (v := 0) hx hb dX3_joinAll_6 (by decide) ?_
  refine va_put (D := (dC, dI)) (ci := 3) (v := .int 0) (ty := .int) (C := RX3) (T := TX3) (N := 8) hx hb hts inX3 tyX3 tyX3_ok nmX3 hown hK hP hD hS 3 rfl rfl 5 (by decide) (hE.t m_121 rfl) (fun _ h9 => h9) rfl (by decide +kernel) rfl rfl (Nat.le_of_ble_eq_true rfl) dX3_joinAll_7 (fun H locs hP hD hS => ?_)
  have hP : va_P (dC, dI) vwCl (wX c0 a (n, wk, sd, bt, lt, lo, rk, ad, vl, bg, cm, sp, gd, rf, ct, rd, 0, 0, sn, wl)) H := hP
  have hD : va_D A (wX c0 a (n, wk, sd, bt, lt, lo, rk, ad, vl, bg, cm, sp, gd, rf, ct, rd, 0, 0, sn, wl)) := hD
  refine lv_aload_n hx hb dX3_joinAll_10 rfl (lv_at hl 0 rfl) ?_
  refine va_get (D := (dC, dI)) (ci := 3) (v := .ref (a 13)) (C := RX3) (T := TX3) (N := 8) hx hb hts inX3 hown hK hP 3 rfl rfl 2 (by decide) (hE.t m_115 rfl) (fun _ h9 => h9) rfl dX3_joinAll_11 ?_
  refine lv_iconst (v := (-1)) hx hb dX3_joinAll_14 (by decide) ?_
  have hPc := hP.sub (ws' := [(a 13, .inl (c0, 24, .inl cm))]) [13] rfl
  have hDc := hD.sub (ws' := [(a 13, .inl (c0, 24, .inl cm))]) [13] (by decide) rfl
  have hFc := fre1 hD hS hA (k := 13) (x := (a 13, .inl (c0, 24, .inl cm))) rfl
  refine va_callv (va_runS (As := [.ref (a 13), .int (-1)]) (rest := []) ⟨hx, hb, hml, hown, hts⟩ (c_fill l dC dI c0 (a 13) _ 24 cm (-1) (by omega)) (va_cwS 2 hts gX3_joinAll_J0_fill rfl rfl rfl (by decide +kernel) ⟨(Nat.le_of_ble_eq_true rfl), (Nat.le_of_ble_eq_true rfl)⟩) ⟨ini_blind, fill_give hPc hK hDc⟩ rfl rfl hl.1 rfl (lv_room (Nat.le_of_ble_eq_true rfl)) dX3_joinAll_15 ⟨by decide, by decide⟩) hS (fun q _ h => hFc q h) hFc (fun u t H1 locs ht hvm hw hB hz1 hk1 hS => ?_)
  obtain rfl := hw
  obtain ⟨hP, hD⟩ := fill_take (k := 13) hP hD rfl ht hk1 hB
  generalize H1 = H at hP hS ⊢
  have hP : va_P (dC, dI) vwCl (wX c0 a (n, wk, sd, bt, lt, lo, rk, ad, vl, bg, fil (fun _ => (-1)) cm 24, sp, gd, rf, ct, rd, 0, 0, sn, wl)) H := hP
  have hD : va_D A (wX c0 a (n, wk, sd, bt, lt, lo, rk, ad, vl, bg, fil (fun _ => (-1)) cm 24, sp, gd, rf, ct, rd, 0, 0, sn, wl)) := hD
  refine lv_iconst (v := 0) hx hb dX3_joinAll_18 (by decide) ?_
  refine lv_istore (lv' := [(4, .int 0), (0, .ref (a 3)), (1, .ref (a 1)), (2, .ref (a 2)), (3, .int z)]) hx hb dX3_joinAll_19 hl (by decide) rfl (fun ls hl => ?_)
  have hloop21 : ∀ (fu : Nat) (k : Nat), n + 1 ≤ k + fu → k ≤ n → jnE bt rk ad vl (fil (fun _ => (-1)) cm 24) ct n z (n - k) k = jnE bt rk ad vl (fil (fun _ => (-1)) cm 24) ct n z n 0 → ∀ (H : Heap) (locs : List Loc) (ls : Array Slot), va_P (dC, dI) vwCl (wX c0 a (n, wk, sd, bt, lt, lo, rk, ad, vl, bg, jnC rk ct (fil (fun _ => (-1)) cm 24) k, sp, gd, rf, ct, rd, jnS rk ad vl ct k, nI k, sn, wl)) H → va_D A (wX c0 a (n, wk, sd, bt, lt, lo, rk, ad, vl, bg, jnC rk ct (fil (fun _ => (-1)) cm 24) k, sp, gd, rf, ct, rd, jnS rk ad vl ct k, nI k, sn, wl)) → va_S A s.heap H locs → lv_has ls 5 [(0, .ref (a 3)), (1, .ref (a 1)), (2, .ref (a 2)), (3, .int z), (4, .int (nI k))] → W p l e (headSpec wsX3_joinAll ({ frames := 2, cells := 0, slots := 0, locals := 60 })).room s m ([.ref (a 3), .ref (a 1), .ref (a 2), .int z] : List Value).toArray below meth c H locs 0 0 Z (F0 m 21 ls []) := by
    intro fu
    induction fu with
    | zero =>
      intro k hfu hi hJ
      exact absurd hfu (by omega)
    | succ fu ih21 =>
      intro k hfu hi hJ H locs ls hP hD hS hl
      refine lv_iload hx hb dX3_joinAll_21 (lv_at hl 4 rfl) ?_
      refine lv_aload_n hx hb dX3_joinAll_23 rfl (lv_at hl 1 rfl) ?_
      refine va_getN (D := (dC, dI)) (ci := 1) (v := .int (nI n)) (C := RX1) (T := TX1) (N := 6) hx hb hts inX1 hown hK hP 1 rfl rfl 0 (by decide) (hE.t m_58 rfl) (fun _ h9 => h9) rfl dX3_joinAll_24 ?_
      refine lv_icmp_ge (tgt := 101) hx hb dX3_joinAll_27 (by decide) (fun c_27 => ?_) (fun c_27 => ?_)
      · skip
        have hie : k = n := by
          have h9 := (nI_leI (a := n) (b := k) (by omega) (by omega)).mp c_27
          omega
        rw [hie] at hP hD hl
        have hie2 : n - k = 0 := by omega
        rw [hie2, hie] at hJ
        refine lv_aload_n hx hb dX3_joinAll_101 rfl (lv_at hl 0 rfl) ?_
        refine lv_aload_n hx hb dX3_joinAll_102 rfl (lv_at hl 2 rfl) ?_
        refine lv_aload_n hx hb dX3_joinAll_103 rfl (lv_at hl 1 rfl) ?_
        refine va_getN (D := (dC, dI)) (ci := 1) (v := .int (nI n)) (C := RX1) (T := TX1) (N := 6) hx hb hts inX1 hown hK hP 1 rfl rfl 0 (by decide) (hE.t m_58 rfl) (fun _ h9 => h9) rfl dX3_joinAll_104 ?_
        have hFc := fre hD hS hA
        refine va_callv (va_runV (As := [.ref (a 2), .int (nI n)]) (rest := []) ⟨hx, hb, hml, hown, hts⟩ (c_X3_letIn l dC dI c0 a _ n wk sd bt lt lo rk ad vl bg (jnC rk ct (fil (fun _ => (-1)) cm 24) n) sp gd rf ct rd (jnS rk ad vl ct n) (nI n) sn wl (nI n) hct) (cwV 2 hts gX3_joinAll_X3_letIn rfl rfl rfl (by decide +kernel) ⟨(Nat.le_of_ble_eq_true rfl), (Nat.le_of_ble_eq_true rfl)⟩) ⟨PX_blind, va_recv hK hP (ci := 3) (q0 := 3) rfl rfl, PX_give hP hK hD hE hS hFc⟩ rfl rfl hl.1 rfl (lv_room (Nat.le_of_ble_eq_true rfl)) dX3_joinAll_107 ⟨by decide, by decide⟩) hS (fun q _ h => hFc q h) hFc (fun u t H1 locs ht hvm hw hB hz1 hk1 hS => ?_)
        obtain rfl := hw
        obtain ⟨hP, hD⟩ := PX_take ht hFc hB
        generalize H1 = H at hP hS ⊢
        have hP : va_P (dC, dI) vwCl (wX c0 a (n, wk, sd, bt, lt, lo, rk, ad, vl, bg, linC rk (nI n) (jnC rk ct (fil (fun _ => (-1)) cm 24) n) ct, sp, gd, rf, ct, rd, linS rk ad (nI n) (jnS rk ad vl ct n) ct, nI n, sn, wl)) H := hP
        have hD : va_D A (wX c0 a (n, wk, sd, bt, lt, lo, rk, ad, vl, bg, linC rk (nI n) (jnC rk ct (fil (fun _ => (-1)) cm 24) n) ct, sp, gd, rf, ct, rd, linS rk ad (nI n) (jnS rk ad vl ct n) ct, nI n, sn, wl)) := hD
        refine lv_iconst (v := (-1)) hx hb dX3_joinAll_110 (by decide) ?_
        rw [hZ]
        exact W.iret (v := (-1)) hx hb hr (fun t ht hW => ⟨⟨(-1), (n, wk, sd, bt, lt, lo, rk, ad, vl, bg, linC rk (nI n) (jnC rk ct (fil (fun _ => (-1)) cm 24) n) ct, sp, gd, rf, ct, rd, linS rk ad (nI n) (jnS rk ad vl ct n) ct, nI n, sn, wl), rfl, ⟨_, _, _, hJ.symm.trans rfl, rfl⟩, by rw [ht]; exact hP, va_K.moved hW.alike hK, hD⟩, hS.F ht⟩) hS.2.2 dX3_joinAll_111
      · skip
        have hlt : k < n := by
          rcases Nat.lt_or_ge k n with h9 | h9
          · exact h9
          · exact absurd (nI_le h9 (by omega)) c_27
        have hie2 : n - k = n - (k + 1) + 1 := by omega
        refine lv_iload hx hb dX3_joinAll_30 (lv_at hl 4 rfl) ?_
        refine lv_iload_n hx hb dX3_joinAll_32 rfl (lv_at hl 3 rfl) ?_
        refine lv_icmp_ne (tgt := 38) hx hb dX3_joinAll_33 (by decide) (fun c_33 => ?_) (fun c_33 => ?_)
        · skip
          refine lv_aload_n hx hb dX3_joinAll_38 rfl (lv_at hl 0 rfl) ?_
          refine lv_aload_n hx hb dX3_joinAll_39 rfl (lv_at hl 2 rfl) ?_
          refine lv_iload hx hb dX3_joinAll_40 (lv_at hl 4 rfl) ?_
          have hFc := fre hD hS hA
          refine va_callv (va_runV (As := [.ref (a 2), .int (nI k)]) (rest := []) ⟨hx, hb, hml, hown, hts⟩ (c_X3_letIn l dC dI c0 a _ n wk sd bt lt lo rk ad vl bg (jnC rk ct (fil (fun _ => (-1)) cm 24) k) sp gd rf ct rd (jnS rk ad vl ct k) (nI k) sn wl (nI k) hct) (cwV 2 hts gX3_joinAll_X3_letIn rfl rfl rfl (by decide +kernel) ⟨(Nat.le_of_ble_eq_true rfl), (Nat.le_of_ble_eq_true rfl)⟩) ⟨PX_blind, va_recv hK hP (ci := 3) (q0 := 3) rfl rfl, PX_give hP hK hD hE hS hFc⟩ rfl rfl hl.1 rfl (lv_room (Nat.le_of_ble_eq_true rfl)) dX3_joinAll_42 ⟨by decide, by decide⟩) hS (fun q _ h => hFc q h) hFc (fun u t H1 locs ht hvm hw hB hz1 hk1 hS => ?_)
          obtain rfl := hw
          obtain ⟨hP, hD⟩ := PX_take ht hFc hB
          generalize H1 = H at hP hS ⊢
          have hP : va_P (dC, dI) vwCl (wX c0 a (n, wk, sd, bt, lt, lo, rk, ad, vl, bg, linC rk (nI k) (jnC rk ct (fil (fun _ => (-1)) cm 24) k) ct, sp, gd, rf, ct, rd, linS rk ad (nI k) (jnS rk ad vl ct k) ct, nI k, sn, wl)) H := hP
          have hD : va_D A (wX c0 a (n, wk, sd, bt, lt, lo, rk, ad, vl, bg, linC rk (nI k) (jnC rk ct (fil (fun _ => (-1)) cm 24) k) ct, sp, gd, rf, ct, rd, linS rk ad (nI k) (jnS rk ad vl ct k) ct, nI k, sn, wl)) := hD
          refine lv_aload_n hx hb dX3_joinAll_45 rfl (lv_at hl 0 rfl) ?_
          refine lv_ldc2 hx hb (own := RX3) (v := 1000003) hown (hE.t m_350 rfl) dX3_joinAll_46 ?_
          refine lv_aload_n hx hb dX3_joinAll_49 rfl (lv_at hl 0 rfl) ?_
          refine va_get (D := (dC, dI)) (ci := 3) (v := .long (linS rk ad (nI k) (jnS rk ad vl ct k) ct)) (C := RX3) (T := TX3) (N := 8) hx hb hts inX3 hown hK hP 3 rfl rfl 4 (by decide) (hE.t m_119 rfl) (fun _ h9 => h9) rfl dX3_joinAll_50 ?_
          refine lv_lmul hx hb dX3_joinAll_53 ?_
          refine lv_aload_n hx hb dX3_joinAll_54 rfl (lv_at hl 0 rfl) ?_
          refine va_get (D := (dC, dI)) (ci := 3) (v := .ref (a 11)) (C := RX3) (T := TX3) (N := 8) hx hb hts inX3 hown hK hP 3 rfl rfl 0 (by decide) (hE.t m_111 rfl) (fun _ h9 => h9) rfl dX3_joinAll_55 ?_
          refine lv_iload hx hb dX3_joinAll_58 (lv_at hl 4 rfl) ?_
          refine va_iald hx hb hK hP 11 0 rfl rfl (vp_in_nI (by omega) (by omega)) dX3_joinAll_60 ?_
          rw [nI_clamp (n := k) (by omega)]
          refine lv_i2l hx hb dX3_joinAll_61 (v := (vl k).toInt64) rfl ?_
          refine lv_ladd hx hb dX3_joinAll_62 ?_
          refine va_put (D := (dC, dI)) (ci := 3) (v := .long ((1000003 * (linS rk ad (nI k) (jnS rk ad vl ct k) ct)) + ((vl k).toInt64))) (ty := .long) (C := RX3) (T := TX3) (N := 8) hx hb hts inX3 tyX3 tyX3_ok nmX3 hown hK hP hD hS 3 rfl rfl 4 (by decide) (hE.t m_119 rfl) (fun _ h9 => h9) rfl (by decide +kernel) rfl rfl (Nat.le_of_ble_eq_true rfl) dX3_joinAll_63 (fun H locs hP hD hS => ?_)
          have hP : va_P (dC, dI) vwCl (wX c0 a (n, wk, sd, bt, lt, lo, rk, ad, vl, bg, linC rk (nI k) (jnC rk ct (fil (fun _ => (-1)) cm 24) k) ct, sp, gd, rf, ct, rd, (1000003 * (linS rk ad (nI k) (jnS rk ad vl ct k) ct)) + ((vl k).toInt64), nI k, sn, wl)) H := hP
          have hD : va_D A (wX c0 a (n, wk, sd, bt, lt, lo, rk, ad, vl, bg, linC rk (nI k) (jnC rk ct (fil (fun _ => (-1)) cm 24) k) ct, sp, gd, rf, ct, rd, (1000003 * (linS rk ad (nI k) (jnS rk ad vl ct k) ct)) + ((vl k).toInt64), nI k, sn, wl)) := hD
          refine lv_aload_n hx hb dX3_joinAll_66 rfl (lv_at hl 0 rfl) ?_
          refine lv_dup hx hb dX3_joinAll_67 rfl ?_
          refine va_get (D := (dC, dI)) (ci := 3) (v := .int (nI k)) (C := RX3) (T := TX3) (N := 8) hx hb hts inX3 hown hK hP 3 rfl rfl 5 (by decide) (hE.t m_121 rfl) (fun _ h9 => h9) rfl dX3_joinAll_68 ?_
          refine lv_iconst (v := 1) hx hb dX3_joinAll_71 (by decide) ?_
          refine lv_iadd hx hb dX3_joinAll_72 ?_
          rw [nI_1]
          refine va_put (D := (dC, dI)) (ci := 3) (v := .int (nI (k + 1))) (ty := .int) (C := RX3) (T := TX3) (N := 8) hx hb hts inX3 tyX3 tyX3_ok nmX3 hown hK hP hD hS 3 rfl rfl 5 (by decide) (hE.t m_121 rfl) (fun _ h9 => h9) rfl (by decide +kernel) rfl rfl (Nat.le_of_ble_eq_true rfl) dX3_joinAll_73 (fun H locs hP hD hS => ?_)
          have hP : va_P (dC, dI) vwCl (wX c0 a (n, wk, sd, bt, lt, lo, rk, ad, vl, bg, linC rk (nI k) (jnC rk ct (fil (fun _ => (-1)) cm 24) k) ct, sp, gd, rf, ct, rd, (1000003 * (linS rk ad (nI k) (jnS rk ad vl ct k) ct)) + ((vl k).toInt64), nI (k + 1), sn, wl)) H := hP
          have hD : va_D A (wX c0 a (n, wk, sd, bt, lt, lo, rk, ad, vl, bg, linC rk (nI k) (jnC rk ct (fil (fun _ => (-1)) cm 24) k) ct, sp, gd, rf, ct, rd, (1000003 * (linS rk ad (nI k) (jnS rk ad vl ct k) ct)) + ((vl k).toInt64), nI (k + 1), sn, wl)) := hD
          refine lv_aload_n hx hb dX3_joinAll_76 rfl (lv_at hl 1 rfl) ?_
          refine lv_iload hx hb dX3_joinAll_77 (lv_at hl 4 rfl) ?_
          refine lv_aload_n hx hb dX3_joinAll_79 rfl (lv_at hl 0 rfl) ?_
          refine va_get (D := (dC, dI)) (ci := 3) (v := .ref (a 11)) (C := RX3) (T := TX3) (N := 8) hx hb hts inX3 hown hK hP 3 rfl rfl 0 (by decide) (hE.t m_111 rfl) (fun _ h9 => h9) rfl dX3_joinAll_80 ?_
          refine lv_iload hx hb dX3_joinAll_83 (lv_at hl 4 rfl) ?_
          refine va_iald hx hb hK hP 11 0 rfl rfl (vp_in_nI (by omega) (by omega)) dX3_joinAll_85 ?_
          rw [nI_clamp (n := k) (by omega)]
          have hFc := fre hD hS hA
          refine va_calli (va_runVN (As := [.int (nI k), .int (vl k)]) (rest := []) ⟨hx, hb, hml, hown, hts⟩ (c_X1_settles l dC dI c0 a _ n wk sd bt lt lo rk ad vl bg (linC rk (nI k) (jnC rk ct (fil (fun _ => (-1)) cm 24) k) ct) sp gd rf ct rd ((1000003 * (linS rk ad (nI k) (jnS rk ad vl ct k) ct)) + ((vl k).toInt64)) (nI (k + 1)) sn wl (nI k) (vl k) (vp_in_nI (by omega) (by omega))) ⟨va_cnB (host := "DrawShares") 2 hts gX3_joinAll_X1_settles rfl rfl rfl (hE.t0 m_351 rfl) (hE.t m_23 rfl) (by decide +kernel) ⟨(Nat.le_of_ble_eq_true rfl), (Nat.le_of_ble_eq_true rfl)⟩, hE.t m_353 rfl, hE.t m_10 rfl⟩ ⟨PX_blind, va_recv hK hP (ci := 1) (q0 := 1) rfl rfl, PX_give hP hK hD hE hS hFc⟩ rfl rfl hl.1 rfl (lv_room (Nat.le_of_ble_eq_true rfl)) dX3_joinAll_86 ⟨by decide, by decide⟩) hS (fun q _ h => hFc q h) hFc (fun r_86 u t H1 locs ht hvm hw hB hz1 hk1 hS => ?_)
          obtain ⟨rfl, rfl⟩ := hw
          obtain ⟨hP, hD⟩ := PX_take ht hFc hB
          generalize H1 = H at hP hS ⊢
          have hP : va_P (dC, dI) vwCl (wX c0 a (n, wk, sd, bt, lt, lo, rk, ad, vl, bg, linC rk (nI k) (jnC rk ct (fil (fun _ => (-1)) cm 24) k) ct, sp, gd, rf, ct, rd, (1000003 * (linS rk ad (nI k) (jnS rk ad vl ct k) ct)) + ((vl k).toInt64), nI (k + 1), sn, wl)) H := hP
          have hD : va_D A (wX c0 a (n, wk, sd, bt, lt, lo, rk, ad, vl, bg, linC rk (nI k) (jnC rk ct (fil (fun _ => (-1)) cm 24) k) ct, sp, gd, rf, ct, rd, (1000003 * (linS rk ad (nI k) (jnS rk ad vl ct k) ct)) + ((vl k).toInt64), nI (k + 1), sn, wl)) := hD
          rw [nI_clamp (n := k) (by omega)]
          refine lv_if_eq (tgt := 95) hx hb dX3_joinAll_89 (by decide) (fun c_89 => ?_) (fun c_89 => ?_)
          · skip
            refine lv_iinc (v := nI (k + 1)) (lv' := [(4, .int (nI (k + 1))), (0, .ref (a 3)), (1, .ref (a 1)), (2, .ref (a 2)), (3, .int z)]) hx hb dX3_joinAll_95 hl (k := 4) rfl (by rw [← nI_1]; rfl) (by decide) rfl (fun ls hl => ?_)
            refine lv_goto (tgt := 21) hx hb dX3_joinAll_98 (by decide) ?_
            have hJ2 : jnE bt rk ad vl (fil (fun _ => (-1)) cm 24) ct n z (n - (k + 1)) (k + 1) = jnE bt rk ad vl (fil (fun _ => (-1)) cm 24) ct n z n 0 := by
              rw [← hJ, hie2]; simp only [jnE, c_33, c_89, ↓reduceIte]
            exact ih21 (k + 1) (by omega) (by omega) hJ2 _ _ _ hP hD hS (lv_sub hl [1, 2, 3, 4, 0] rfl)
          · skip
            refine lv_iload hx hb dX3_joinAll_92 (lv_at hl 4 rfl) ?_
            rw [hZ]
            exact W.iret (v := nI k) hx hb hr (fun t ht hW => ⟨⟨nI k, (n, wk, sd, bt, lt, lo, rk, ad, vl, bg, linC rk (nI k) (jnC rk ct (fil (fun _ => (-1)) cm 24) k) ct, sp, gd, rf, ct, rd, (1000003 * (linS rk ad (nI k) (jnS rk ad vl ct k) ct)) + ((vl k).toInt64), nI (k + 1), sn, wl), rfl, ⟨_, _, _, hJ.symm.trans (by rw [hie2]; simp only [jnE, c_33, c_89, ↓reduceIte]; try rfl), rfl⟩, by rw [ht]; exact hP, va_K.moved hW.alike hK, hD⟩, hS.F ht⟩) hS.2.2 dX3_joinAll_94
        · skip
          refine lv_iconst (v := (-1)) hx hb dX3_joinAll_36 (by decide) ?_
          rw [hZ]
          exact W.iret (v := (-1)) hx hb hr (fun t ht hW => ⟨⟨(-1), (n, wk, sd, bt, lt, lo, rk, ad, vl, bg, jnC rk ct (fil (fun _ => (-1)) cm 24) k, sp, gd, rf, ct, rd, jnS rk ad vl ct k, nI k, sn, wl), rfl, ⟨_, _, _, hJ.symm.trans (by rw [hie2]; simp only [jnE, eq_true c_33, ↓reduceIte]; try rfl), rfl⟩, by rw [ht]; exact hP, va_K.moved hW.alike hK, hD⟩, hS.F ht⟩) hS.2.2 dX3_joinAll_37
  have hP : va_P (dC, dI) vwCl (wX c0 a (n, wk, sd, bt, lt, lo, rk, ad, vl, bg, jnC rk ct (fil (fun _ => (-1)) cm 24) 0, sp, gd, rf, ct, rd, jnS rk ad vl ct 0, nI 0, sn, wl)) H := by rw [nI_0]; exact hP
  have hD : va_D A (wX c0 a (n, wk, sd, bt, lt, lo, rk, ad, vl, bg, jnC rk ct (fil (fun _ => (-1)) cm 24) 0, sp, gd, rf, ct, rd, jnS rk ad vl ct 0, nI 0, sn, wl)) := by rw [nI_0]; exact hD
  have hl0 : lv_has ls 5 [(0, .ref (a 3)), (1, .ref (a 1)), (2, .ref (a 2)), (3, .int z), (4, .int (nI 0))] := by
    rw [nI_0]; exact lv_sub hl [1, 2, 3, 4, 0] rfl
  exact hloop21 (n + 1) 0 (by omega) (by omega) rfl _ _ _ hP hD hS hl0
