set_option maxHeartbeats 4000000 in
set_option maxRecDepth 100000 in
/-- Shares.behind(k, st): the chain behind st steps -/
theorem c_X1_behind (l : Launch) (dC : Nat → ClassId) (dI : Nat → Nat → Nat) (c0 : ClassId) (a : Nat → Nat) (sz : Nat) (n : Nat) (wk sd bt lt lo rk ad vl bg cm : Nat → Int32) (sp gd rf : Int32) (ct : Nat) (rd : Int32) (sm : Int64) (js sn wl : Int32) (k : Int32) (st : Int32) (hk : vp_in k n) : Met l yX1_behind wsX1_behind ({ frames := 0, cells := 0, slots := 0, locals := 0 }) (va_Pc [.ref (a 1), .int k, .int st] (PX dC dI c0 a (n, wk, sd, bt, lt, lo, rk, ad, vl, bg, cm, sp, gd, rf, ct, rd, sm, js, sn, wl) sz)) (va_Ql (fun (r : Int64) (u : xS) => u = (n, wk, sd, bt, lt, lo, rk, ad, vl, bg, cm, sp, gd, rf, ct, rd, sm, js, sn, wl) ∧ r = chx (sd k.toNatClampNeg) k st.toNatClampNeg) (BX dC dI c0 a (va_A (wX c0 a (n, wk, sd, bt, lt, lo, rk, ad, vl, bg, cm, sp, gd, rf, ct, rd, sm, js, sn, wl)) sz)) (va_A (wX c0 a (n, wk, sd, bt, lt, lo, rk, ad, vl, bg, cm, sp, gd, rf, ct, rd, sm, js, sn, wl)) sz)) 0 0 (va_A (wX c0 a (n, wk, sd, bt, lt, lo, rk, ad, vl, bg, cm, sp, gd, rf, ct, rd, sm, js, sn, wl)) sz) := by
  refine Met.ofW (cc := cX1_behind) (maxL := 6) (ret := (some .long)) (by decide) rfl ?_
  intro p e s m args below meth c s₁ B hml hv
  obtain ⟨rfl, hsz, hP, hK, hD0, hE⟩ := hv
  have hx := B.exec
  have hb := B.bytes
  have hr := B.returns
  have hown : s.vm.findClass RX1 = some m.cls := findClass_of_methodNamed B.named
  have hlocks := B.notSynchronized
  subst hsz
  have hD := hD0.self (sz := s.heap.size)
  generalize hAe : va_A (wX c0 a (n, wk, sd, bt, lt, lo, rk, ad, vl, bg, cm, sp, gd, rf, ct, rd, sm, js, sn, wl)) s.heap.size = A at hD hE ⊢
  have hts := hE.ts (args := ([.ref (a 1), .int k, .int st] : List Value).toArray)
  have hA : ∀ q : Nat, s.heap.size ≤ q → A q := fun q h => by rw [← hAe]; exact Or.inr h
  have hS : va_S A s.heap s.heap [] := va_S.rf
  have hP : va_P (dC, dI) vwCl (wX c0 a (n, wk, sd, bt, lt, lo, rk, ad, vl, bg, cm, sp, gd, rf, ct, rd, sm, js, sn, wl)) s.heap := hP
  refine gz (P := fun Z => W p l e _ s m _ below meth c _ _ _ _ Z _) (fun Z hZ => ?_)
  show W p l e _ s m _ below meth c _ _ _ _ Z _
  have hl := lv_entry ([.ref (a 1), .int k, .int st]) (n := 6) (Nat.le_of_ble_eq_true rfl)
  rw [lg_entry_eq]
  generalize (lg_sl ([.ref (a 1), .int k, .int st]) ++ List.replicate (6 - (lg_sl ([.ref (a 1), .int k, .int st])).length) Slot.unset).toArray = ls at hl ⊢
  have hl : lv_has ls 6 [(0, .ref (a 1)), (1, .int k), (2, .int st)] := hl
  refine lv_ldc2 hx hb (own := RX1) (v := 2654435761) hown (hE.t m_332 rfl) dX1_behind_0 ?_
  refine lv_aload_n hx hb dX1_behind_3 rfl (lv_at hl 0 rfl) ?_
  refine va_get (D := (dC, dI)) (ci := 1) (v := .ref (a 5)) (C := RX1) (T := TX1) (N := 6) hx hb hts inX1 hown hK hP 1 rfl rfl 2 (by decide) (hE.t m_62 rfl) (fun _ h9 => h9) rfl dX1_behind_4 ?_
  refine lv_iload_n hx hb dX1_behind_7 rfl (lv_at hl 1 rfl) ?_
  refine va_iald hx hb hK hP 5 0 rfl rfl hk dX1_behind_8 ?_
  refine lv_i2l hx hb dX1_behind_9 (v := (sd k.toNatClampNeg).toInt64) rfl ?_
  refine lv_lmul hx hb dX1_behind_10 ?_
  refine lv_iload_n hx hb dX1_behind_11 rfl (lv_at hl 1 rfl) ?_
  refine lv_i2l hx hb dX1_behind_12 (v := k.toInt64) rfl ?_
  refine lv_ladd hx hb dX1_behind_13 ?_
  refine lv_lstore_n (lv' := [(3, .long ((2654435761 * ((sd k.toNatClampNeg).toInt64)) + k.toInt64)), (0, .ref (a 1)), (1, .int k), (2, .int st)]) hx hb dX1_behind_14 rfl hl (by decide) rfl (fun ls hl => ?_)
  refine lv_iconst (v := 0) hx hb dX1_behind_15 (by decide) ?_
  refine lv_istore (lv' := [(5, .int 0), (3, .long ((2654435761 * ((sd k.toNatClampNeg).toInt64)) + k.toInt64)), (0, .ref (a 1)), (1, .int k), (2, .int st)]) hx hb dX1_behind_16 hl (by decide) rfl (fun ls hl => ?_)
  have hloop18 : ∀ (fu : Nat) (i : Nat), st.toNatClampNeg + 1 ≤ i + fu → i ≤ st.toNatClampNeg → ∀ (H : Heap) (locs : List Loc) (ls : Array Slot), va_P (dC, dI) vwCl (wX c0 a (n, wk, sd, bt, lt, lo, rk, ad, vl, bg, cm, sp, gd, rf, ct, rd, sm, js, sn, wl)) H → va_D A (wX c0 a (n, wk, sd, bt, lt, lo, rk, ad, vl, bg, cm, sp, gd, rf, ct, rd, sm, js, sn, wl)) → va_S A s.heap H locs → lv_has ls 6 [(0, .ref (a 1)), (1, .int k), (2, .int st), (3, .long (chx (sd k.toNatClampNeg) k i)), (5, .int (nI i))] → W p l e (headSpec wsX1_behind ({ frames := 0, cells := 0, slots := 0, locals := 0 })).room s m ([.ref (a 1), .int k, .int st] : List Value).toArray below meth c H locs 0 0 Z (F0 m 18 ls []) := by
    intro fu
    induction fu with
    | zero =>
      intro i hfu hi
      exact absurd hfu (by omega)
    | succ fu ih18 =>
      intro i hfu hi H locs ls hP hD hS hl
      refine lv_iload hx hb dX1_behind_18 (lv_at hl 4 rfl) ?_
      refine lv_iload_n hx hb dX1_behind_20 rfl (lv_at hl 2 rfl) ?_
      refine lv_icmp_ge (tgt := 40) hx hb dX1_behind_21 (by decide) (fun c_21 => ?_) (fun c_21 => ?_)
      · skip
        have hie : i = st.toNatClampNeg := cl_eq hi c_21
        rw [hie] at hl
        refine lv_lload_n hx hb dX1_behind_40 rfl (lv_at hl 3 rfl) ?_
        rw [hZ]
        exact W.lret (v := chx (sd k.toNatClampNeg) k st.toNatClampNeg) hx hb hr (fun t ht hW => ⟨⟨chx (sd k.toNatClampNeg) k st.toNatClampNeg, (n, wk, sd, bt, lt, lo, rk, ad, vl, bg, cm, sp, gd, rf, ct, rd, sm, js, sn, wl), rfl, ⟨rfl, rfl⟩, by rw [ht]; exact hP, va_K.moved hW.alike hK, hD⟩, hS.F ht⟩) hS.2.2 dX1_behind_41
      · skip
        have hlt : i < st.toNatClampNeg := cl_lt hi c_21
        refine lv_ldc2 hx hb (own := RX1) (v := 6364136223846793005) hown (hE.t m_333 rfl) dX1_behind_24 ?_
        refine lv_lload_n hx hb dX1_behind_27 rfl (lv_at hl 3 rfl) ?_
        refine lv_lmul hx hb dX1_behind_28 ?_
        refine lv_ldc2 hx hb (own := RX1) (v := 1442695040888963407) hown (hE.t m_334 rfl) dX1_behind_29 ?_
        refine lv_ladd hx hb dX1_behind_32 ?_
        refine lv_lstore_n (lv' := [(3, .long ((6364136223846793005 * (chx (sd k.toNatClampNeg) k i)) + 1442695040888963407)), (0, .ref (a 1)), (1, .int k), (2, .int st), (5, .int (nI i))]) hx hb dX1_behind_33 rfl hl (by decide) rfl (fun ls hl => ?_)
        refine lv_iinc (v := nI (i + 1)) (lv' := [(5, .int (nI (i + 1))), (3, .long ((6364136223846793005 * (chx (sd k.toNatClampNeg) k i)) + 1442695040888963407)), (0, .ref (a 1)), (1, .int k), (2, .int st)]) hx hb dX1_behind_34 hl (k := 4) rfl (by rw [← nI_1]; rfl) (by decide) rfl (fun ls hl => ?_)
        refine lv_goto (tgt := 18) hx hb dX1_behind_37 (by decide) ?_
        exact ih18 (i + 1) (by omega) (by omega) _ _ _ hP hD hS (lv_sub hl [2, 3, 4, 1, 0] rfl)
  have hl0 : lv_has ls 6 [(0, .ref (a 1)), (1, .int k), (2, .int st), (3, .long (chx (sd k.toNatClampNeg) k 0)), (5, .int (nI 0))] := by
    rw [nI_0]; exact lv_sub hl [2, 3, 4, 1, 0] rfl
  exact hloop18 (st.toNatClampNeg + 1) 0 (by omega) (by omega) _ _ _ hP hD hS hl0
set_option maxHeartbeats 4000000 in
set_option maxRecDepth 100000 in
/-- Shares.lastValue(k) -/
theorem c_X1_lastValue (l : Launch) (dC : Nat → ClassId) (dI : Nat → Nat → Nat) (c0 : ClassId) (a : Nat → Nat) (sz : Nat) (n : Nat) (wk sd bt lt lo rk ad vl bg cm : Nat → Int32) (sp gd rf : Int32) (ct : Nat) (rd : Int32) (sm : Int64) (js sn wl : Int32) (k : Int32) (hk : vp_in k n) : Met l yX1_lastValue wsX1_lastValue ({ frames := 1, cells := 0, slots := 0, locals := 25 }) (va_Pc [.ref (a 1), .int k] (PX dC dI c0 a (n, wk, sd, bt, lt, lo, rk, ad, vl, bg, cm, sp, gd, rf, ct, rd, sm, js, sn, wl) sz)) (va_Qi (fun (r : Int32) (u : xS) => u = (n, wk, sd, bt, lt, lo, rk, ad, vl, bg, cm, sp, gd, rf, ct, rd, sm, js, sn, wl) ∧ r = lastV wk sd k) (BX dC dI c0 a (va_A (wX c0 a (n, wk, sd, bt, lt, lo, rk, ad, vl, bg, cm, sp, gd, rf, ct, rd, sm, js, sn, wl)) sz)) (va_A (wX c0 a (n, wk, sd, bt, lt, lo, rk, ad, vl, bg, cm, sp, gd, rf, ct, rd, sm, js, sn, wl)) sz)) 0 0 (va_A (wX c0 a (n, wk, sd, bt, lt, lo, rk, ad, vl, bg, cm, sp, gd, rf, ct, rd, sm, js, sn, wl)) sz) := by
  refine Met.ofW (cc := cX1_lastValue) (maxL := 2) (ret := (some .int)) (by decide) rfl ?_
  intro p e s m args below meth c s₁ B hml hv
  obtain ⟨rfl, hsz, hP, hK, hD0, hE⟩ := hv
  have hx := B.exec
  have hb := B.bytes
  have hr := B.returns
  have hown : s.vm.findClass RX1 = some m.cls := findClass_of_methodNamed B.named
  have hlocks := B.notSynchronized
  subst hsz
  have hD := hD0.self (sz := s.heap.size)
  generalize hAe : va_A (wX c0 a (n, wk, sd, bt, lt, lo, rk, ad, vl, bg, cm, sp, gd, rf, ct, rd, sm, js, sn, wl)) s.heap.size = A at hD hE ⊢
  have hts := hE.ts (args := ([.ref (a 1), .int k] : List Value).toArray)
  have hA : ∀ q : Nat, s.heap.size ≤ q → A q := fun q h => by rw [← hAe]; exact Or.inr h
  have hS : va_S A s.heap s.heap [] := va_S.rf
  have hP : va_P (dC, dI) vwCl (wX c0 a (n, wk, sd, bt, lt, lo, rk, ad, vl, bg, cm, sp, gd, rf, ct, rd, sm, js, sn, wl)) s.heap := hP
  have hl := lv_entry ([.ref (a 1), .int k]) (n := 2) (Nat.le_of_ble_eq_true rfl)
  rw [lg_entry_eq]
  generalize (lg_sl ([.ref (a 1), .int k]) ++ List.replicate (2 - (lg_sl ([.ref (a 1), .int k])).length) Slot.unset).toArray = ls at hl ⊢
  have hl : lv_has ls 2 [(0, .ref (a 1)), (1, .int k)] := hl
  refine lv_aload_n hx hb dX1_lastValue_0 rfl (lv_at hl 0 rfl) ?_
  refine lv_iload_n hx hb dX1_lastValue_1 rfl (lv_at hl 1 rfl) ?_
  refine lv_aload_n hx hb dX1_lastValue_2 rfl (lv_at hl 0 rfl) ?_
  refine va_get (D := (dC, dI)) (ci := 1) (v := .ref (a 4)) (C := RX1) (T := TX1) (N := 6) hx hb hts inX1 hown hK hP 1 rfl rfl 1 (by decide) (hE.t m_60 rfl) (fun _ h9 => h9) rfl dX1_lastValue_3 ?_
  refine lv_iload_n hx hb dX1_lastValue_6 rfl (lv_at hl 1 rfl) ?_
  refine va_iald hx hb hK hP 4 0 rfl rfl hk dX1_lastValue_7 ?_
  have hFc := fre hD hS hA
  refine va_calll (va_runV (As := [.int k, .int (wk k.toNatClampNeg)]) (rest := []) ⟨hx, hb, hml, hown, hts⟩ (c_X1_behind l dC dI c0 a _ n wk sd bt lt lo rk ad vl bg cm sp gd rf ct rd sm js sn wl k (wk k.toNatClampNeg) hk) (cwV 2 hts gX1_lastValue_X1_behind rfl rfl rfl (by decide +kernel) ⟨(Nat.le_of_ble_eq_true rfl), (Nat.le_of_ble_eq_true rfl)⟩) ⟨PX_blind, va_recv hK hP (ci := 1) (q0 := 1) rfl rfl, PX_give hP hK hD hE hS hFc⟩ rfl rfl hl.1 rfl (lv_room (Nat.le_of_ble_eq_true rfl)) dX1_lastValue_8 ⟨by decide, by decide⟩) hS (fun q _ h => hFc q h) hFc (fun r_8 u t H1 locs ht hvm hw hB hz1 hk1 hS => ?_)
  obtain ⟨rfl, rfl⟩ := hw
  obtain ⟨hP, hD⟩ := PX_take ht hFc hB
  generalize H1 = H at hP hS ⊢
  have hP : va_P (dC, dI) vwCl (wX c0 a (n, wk, sd, bt, lt, lo, rk, ad, vl, bg, cm, sp, gd, rf, ct, rd, sm, js, sn, wl)) H := hP
  have hD : va_D A (wX c0 a (n, wk, sd, bt, lt, lo, rk, ad, vl, bg, cm, sp, gd, rf, ct, rd, sm, js, sn, wl)) := hD
  refine lv_bipush (v := 33) hx hb dX1_lastValue_11 (by decide) ?_
  refine lv_lushr hx hb dX1_lastValue_13 (v := ((chx (sd k.toNatClampNeg) k (wk k.toNatClampNeg).toNatClampNeg).toUInt64 >>> ((33 : Int32).toInt64.toUInt64 &&& Int64.toUInt64 63)).toInt64) rfl ?_
  refine lv_l2i hx hb dX1_lastValue_14 (v := (((chx (sd k.toNatClampNeg) k (wk k.toNatClampNeg).toNatClampNeg).toUInt64 >>> ((33 : Int32).toInt64.toUInt64 &&& Int64.toUInt64 63)).toInt64).toInt32) rfl ?_
  exact W.iret (v := (((chx (sd k.toNatClampNeg) k (wk k.toNatClampNeg).toNatClampNeg).toUInt64 >>> ((33 : Int32).toInt64.toUInt64 &&& Int64.toUInt64 63)).toInt64).toInt32) hx hb hr (fun t ht hW => ⟨⟨(((chx (sd k.toNatClampNeg) k (wk k.toNatClampNeg).toNatClampNeg).toUInt64 >>> ((33 : Int32).toInt64.toUInt64 &&& Int64.toUInt64 63)).toInt64).toInt32, (n, wk, sd, bt, lt, lo, rk, ad, vl, bg, cm, sp, gd, rf, ct, rd, sm, js, sn, wl), rfl, ⟨rfl, rfl⟩, by rw [ht]; exact hP, va_K.moved hW.alike hK, hD⟩, hS.F ht⟩) hS.2.2 dX1_lastValue_15
set_option maxHeartbeats 4000000 in
set_option maxRecDepth 100000 in
/-- Shares.settles(k, v) -/
theorem c_X1_settles (l : Launch) (dC : Nat → ClassId) (dI : Nat → Nat → Nat) (c0 : ClassId) (a : Nat → Nat) (sz : Nat) (n : Nat) (wk sd bt lt lo rk ad vl bg cm : Nat → Int32) (sp gd rf : Int32) (ct : Nat) (rd : Int32) (sm : Int64) (js sn wl : Int32) (k : Int32) (v : Int32) (hk : vp_in k n) : Met l yX1_settles wsX1_settles ({ frames := 0, cells := 0, slots := 0, locals := 0 }) (va_Pc [.ref (a 1), .int k, .int v] (PX dC dI c0 a (n, wk, sd, bt, lt, lo, rk, ad, vl, bg, cm, sp, gd, rf, ct, rd, sm, js, sn, wl) sz)) (va_Qi (fun (r : Int32) (u : xS) => u = (n, wk, sd, bt, lt, lo, rk, ad, vl, bg, cm, sp, gd, rf, ct, rd, sm, js, sn, wl) ∧ r = stl (bt k.toNatClampNeg) v) (BX dC dI c0 a (va_A (wX c0 a (n, wk, sd, bt, lt, lo, rk, ad, vl, bg, cm, sp, gd, rf, ct, rd, sm, js, sn, wl)) sz)) (va_A (wX c0 a (n, wk, sd, bt, lt, lo, rk, ad, vl, bg, cm, sp, gd, rf, ct, rd, sm, js, sn, wl)) sz)) 0 0 (va_A (wX c0 a (n, wk, sd, bt, lt, lo, rk, ad, vl, bg, cm, sp, gd, rf, ct, rd, sm, js, sn, wl)) sz) := by
  refine Met.ofW (cc := cX1_settles) (maxL := 4) (ret := (some .boolean)) (by decide) rfl ?_
  intro p e s m args below meth c s₁ B hml hv
  obtain ⟨rfl, hsz, hP, hK, hD0, hE⟩ := hv
  have hx := B.exec
  have hb := B.bytes
  have hr := B.returns
  have hown : s.vm.findClass RX1 = some m.cls := findClass_of_methodNamed B.named
  have hlocks := B.notSynchronized
  subst hsz
  have hD := hD0.self (sz := s.heap.size)
  generalize hAe : va_A (wX c0 a (n, wk, sd, bt, lt, lo, rk, ad, vl, bg, cm, sp, gd, rf, ct, rd, sm, js, sn, wl)) s.heap.size = A at hD hE ⊢
  have hts := hE.ts (args := ([.ref (a 1), .int k, .int v] : List Value).toArray)
  have hA : ∀ q : Nat, s.heap.size ≤ q → A q := fun q h => by rw [← hAe]; exact Or.inr h
  have hS : va_S A s.heap s.heap [] := va_S.rf
  have hP : va_P (dC, dI) vwCl (wX c0 a (n, wk, sd, bt, lt, lo, rk, ad, vl, bg, cm, sp, gd, rf, ct, rd, sm, js, sn, wl)) s.heap := hP
  have hl := lv_entry ([.ref (a 1), .int k, .int v]) (n := 4) (Nat.le_of_ble_eq_true rfl)
  rw [lg_entry_eq]
  generalize (lg_sl ([.ref (a 1), .int k, .int v]) ++ List.replicate (4 - (lg_sl ([.ref (a 1), .int k, .int v])).length) Slot.unset).toArray = ls at hl ⊢
  have hl : lv_has ls 4 [(0, .ref (a 1)), (1, .int k), (2, .int v)] := hl
  refine lv_iconst (v := 1) hx hb dX1_settles_0 (by decide) ?_
  refine lv_aload_n hx hb dX1_settles_1 rfl (lv_at hl 0 rfl) ?_
  refine va_get (D := (dC, dI)) (ci := 1) (v := .ref (a 6)) (C := RX1) (T := TX1) (N := 6) hx hb hts inX1 hown hK hP 1 rfl rfl 3 (by decide) (hE.t m_64 rfl) (fun _ h9 => h9) rfl dX1_settles_2 ?_
  refine lv_iload_n hx hb dX1_settles_5 rfl (lv_at hl 1 rfl) ?_
  refine va_iald hx hb hK hP 6 0 rfl rfl hk dX1_settles_6 ?_
  refine lv_ishl hx hb dX1_settles_7 ?_
  refine lv_iconst (v := 1) hx hb dX1_settles_8 (by decide) ?_
  refine lv_isub hx hb dX1_settles_9 ?_
  refine lv_istore_n (lv' := [(3, .int ((1 <<< ((bt k.toNatClampNeg) &&& 31)) - 1)), (0, .ref (a 1)), (1, .int k), (2, .int v)]) hx hb dX1_settles_10 rfl hl (by decide) rfl (fun ls hl => ?_)
  refine lv_aload_n hx hb dX1_settles_11 rfl (lv_at hl 1 rfl) ?_
  refine va_get (D := (dC, dI)) (ci := 1) (v := .ref (a 6)) (C := RX1) (T := TX1) (N := 6) hx hb hts inX1 hown hK hP 1 rfl rfl 3 (by decide) (hE.t m_64 rfl) (fun _ h9 => h9) rfl dX1_settles_12 ?_
  refine lv_iload_n hx hb dX1_settles_15 rfl (lv_at hl 2 rfl) ?_
  refine va_iald hx hb hK hP 6 0 rfl rfl hk dX1_settles_16 ?_
  refine lv_if_eq (tgt := 30) hx hb dX1_settles_17 (by decide) (fun c_17 => ?_) (fun c_17 => ?_)
  · skip
    refine lv_iconst (v := 0) hx hb dX1_settles_30 (by decide) ?_
    exact W.zret (v := 0) hx hb hr rfl (fun t ht hW => ⟨⟨0, (n, wk, sd, bt, lt, lo, rk, ad, vl, bg, cm, sp, gd, rf, ct, rd, sm, js, sn, wl), rfl, ⟨rfl, (by simp only [stl, eq_true c_17, ↓reduceIte])⟩, by rw [ht]; exact hP, va_K.moved hW.alike hK, hD⟩, hS.F ht⟩) hS.2.2 dX1_settles_31
  · skip
    refine lv_iload_n hx hb dX1_settles_20 rfl (lv_at hl 3 rfl) ?_
    refine lv_iload_n hx hb dX1_settles_21 rfl (lv_at hl 0 rfl) ?_
    refine lv_iand hx hb dX1_settles_22 ?_
    refine lv_if_ne (tgt := 30) hx hb dX1_settles_23 (by decide) (fun c_23 => ?_) (fun c_23 => ?_)
    · skip
      refine lv_iconst (v := 0) hx hb dX1_settles_30 (by decide) ?_
      exact W.zret (v := 0) hx hb hr rfl (fun t ht hW => ⟨⟨0, (n, wk, sd, bt, lt, lo, rk, ad, vl, bg, cm, sp, gd, rf, ct, rd, sm, js, sn, wl), rfl, ⟨rfl, (by simp only [stl, c_17, c_23, ↓reduceIte])⟩, by rw [ht]; exact hP, va_K.moved hW.alike hK, hD⟩, hS.F ht⟩) hS.2.2 dX1_settles_31
    · skip
      refine lv_iconst (v := 1) hx hb dX1_settles_26 (by decide) ?_
      refine lv_goto (tgt := 31) hx hb dX1_settles_27 (by decide) ?_
      exact W.zret (v := 1) hx hb hr rfl (fun t ht hW => ⟨⟨1, (n, wk, sd, bt, lt, lo, rk, ad, vl, bg, cm, sp, gd, rf, ct, rd, sm, js, sn, wl), rfl, ⟨rfl, (by simp only [stl, c_17, eq_true c_23, ↓reduceIte])⟩, by rw [ht]; exact hP, va_K.moved hW.alike hK, hD⟩, hS.F ht⟩) hS.2.2 dX1_settles_31
set_option maxHeartbeats 4000000 in
set_option maxRecDepth 100000 in
/-- Shares.allLosses() -/
theorem c_X1_allLosses (l : Launch) (dC : Nat → ClassId) (dI : Nat → Nat → Nat) (c0 : ClassId) (a : Nat → Nat) (sz : Nat) (n : Nat) (wk sd bt lt lo rk ad vl bg cm : Nat → Int32) (sp gd rf : Int32) (ct : Nat) (rd : Int32) (sm : Int64) (js sn wl : Int32) (hn : n ≤ 40) : Met l yX1_allLosses wsX1_allLosses ({ frames := 0, cells := 0, slots := 0, locals := 0 }) (va_Pc [.ref (a 1)] (PX dC dI c0 a (n, wk, sd, bt, lt, lo, rk, ad, vl, bg, cm, sp, gd, rf, ct, rd, sm, js, sn, wl) sz)) (va_Qi (fun (r : Int32) (u : xS) => u = (n, wk, sd, bt, lt, lo, rk, ad, vl, bg, cm, sp, gd, rf, ct, rd, sm, js, sn, wl) ∧ r = sumL lo n) (BX dC dI c0 a (va_A (wX c0 a (n, wk, sd, bt, lt, lo, rk, ad, vl, bg, cm, sp, gd, rf, ct, rd, sm, js, sn, wl)) sz)) (va_A (wX c0 a (n, wk, sd, bt, lt, lo, rk, ad, vl, bg, cm, sp, gd, rf, ct, rd, sm, js, sn, wl)) sz)) 0 0 (va_A (wX c0 a (n, wk, sd, bt, lt, lo, rk, ad, vl, bg, cm, sp, gd, rf, ct, rd, sm, js, sn, wl)) sz) := by
  refine Met.ofW (cc := cX1_allLosses) (maxL := 3) (ret := (some .int)) (by decide) rfl ?_
  intro p e s m args below meth c s₁ B hml hv
  obtain ⟨rfl, hsz, hP, hK, hD0, hE⟩ := hv
  have hx := B.exec
  have hb := B.bytes
  have hr := B.returns
  have hown : s.vm.findClass RX1 = some m.cls := findClass_of_methodNamed B.named
  have hlocks := B.notSynchronized
  subst hsz
  have hD := hD0.self (sz := s.heap.size)
  generalize hAe : va_A (wX c0 a (n, wk, sd, bt, lt, lo, rk, ad, vl, bg, cm, sp, gd, rf, ct, rd, sm, js, sn, wl)) s.heap.size = A at hD hE ⊢
  have hts := hE.ts (args := ([.ref (a 1)] : List Value).toArray)
  have hA : ∀ q : Nat, s.heap.size ≤ q → A q := fun q h => by rw [← hAe]; exact Or.inr h
  have hS : va_S A s.heap s.heap [] := va_S.rf
  have hP : va_P (dC, dI) vwCl (wX c0 a (n, wk, sd, bt, lt, lo, rk, ad, vl, bg, cm, sp, gd, rf, ct, rd, sm, js, sn, wl)) s.heap := hP
  refine gz (P := fun Z => W p l e _ s m _ below meth c _ _ _ _ Z _) (fun Z hZ => ?_)
  show W p l e _ s m _ below meth c _ _ _ _ Z _
  have hl := lv_entry ([.ref (a 1)]) (n := 3) (Nat.le_of_ble_eq_true rfl)
  rw [lg_entry_eq]
  generalize (lg_sl ([.ref (a 1)]) ++ List.replicate (3 - (lg_sl ([.ref (a 1)])).length) Slot.unset).toArray = ls at hl ⊢
  have hl : lv_has ls 3 [(0, .ref (a 1))] := hl
  refine lv_iconst (v := 0) hx hb dX1_allLosses_0 (by decide) ?_
  refine lv_istore_n (lv' := [(1, .int 0), (0, .ref (a 1))]) hx hb dX1_allLosses_1 rfl hl (by decide) rfl (fun ls hl => ?_)
  refine lv_iconst (v := 0) hx hb dX1_allLosses_2 (by decide) ?_
  refine lv_istore_n (lv' := [(2, .int 0), (1, .int 0), (0, .ref (a 1))]) hx hb dX1_allLosses_3 rfl hl (by decide) rfl (fun ls hl => ?_)
  have hloop4 : ∀ (fu : Nat) (i : Nat), n + 1 ≤ i + fu → i ≤ n → ∀ (H : Heap) (locs : List Loc) (ls : Array Slot), va_P (dC, dI) vwCl (wX c0 a (n, wk, sd, bt, lt, lo, rk, ad, vl, bg, cm, sp, gd, rf, ct, rd, sm, js, sn, wl)) H → va_D A (wX c0 a (n, wk, sd, bt, lt, lo, rk, ad, vl, bg, cm, sp, gd, rf, ct, rd, sm, js, sn, wl)) → va_S A s.heap H locs → lv_has ls 3 [(0, .ref (a 1)), (1, .int (sumL lo i)), (2, .int (nI i))] → W p l e (headSpec wsX1_allLosses ({ frames := 0, cells := 0, slots := 0, locals := 0 })).room s m ([.ref (a 1)] : List Value).toArray below meth c H locs 0 0 Z (F0 m 4 ls []) := by
    intro fu
    induction fu with
    | zero =>
      intro i hfu hi
      exact absurd hfu (by omega)
    | succ fu ih4 =>
      intro i hfu hi H locs ls hP hD hS hl
      refine lv_iload_n hx hb dX1_allLosses_4 rfl (lv_at hl 2 rfl) ?_
      refine lv_aload_n hx hb dX1_allLosses_5 rfl (lv_at hl 0 rfl) ?_
      refine va_get (D := (dC, dI)) (ci := 1) (v := .int (nI n)) (C := RX1) (T := TX1) (N := 6) hx hb hts inX1 hown hK hP 1 rfl rfl 0 (by decide) (hE.t m_57 rfl) (fun _ h9 => h9) rfl dX1_allLosses_6 ?_
      refine lv_icmp_ge (tgt := 27) hx hb dX1_allLosses_9 (by decide) (fun c_9 => ?_) (fun c_9 => ?_)
      · skip
        have hie : i = n := by
          have h9 := (nI_leI (a := n) (b := i) (by omega) (by omega)).mp c_9
          omega
        rw [hie] at hl
        refine lv_iload_n hx hb dX1_allLosses_27 rfl (lv_at hl 1 rfl) ?_
        rw [hZ]
        exact W.iret (v := sumL lo n) hx hb hr (fun t ht hW => ⟨⟨sumL lo n, (n, wk, sd, bt, lt, lo, rk, ad, vl, bg, cm, sp, gd, rf, ct, rd, sm, js, sn, wl), rfl, ⟨rfl, rfl⟩, by rw [ht]; exact hP, va_K.moved hW.alike hK, hD⟩, hS.F ht⟩) hS.2.2 dX1_allLosses_28
      · skip
        have hlt : i < n := by
          rcases Nat.lt_or_ge i n with h9 | h9
          · exact h9
          · exact absurd (nI_le h9 (by omega)) c_9
        refine lv_iload_n hx hb dX1_allLosses_12 rfl (lv_at hl 1 rfl) ?_
        refine lv_aload_n hx hb dX1_allLosses_13 rfl (lv_at hl 0 rfl) ?_
        refine va_get (D := (dC, dI)) (ci := 1) (v := .ref (a 8)) (C := RX1) (T := TX1) (N := 6) hx hb hts inX1 hown hK hP 1 rfl rfl 5 (by decide) (hE.t m_68 rfl) (fun _ h9 => h9) rfl dX1_allLosses_14 ?_
        refine lv_iload_n hx hb dX1_allLosses_17 rfl (lv_at hl 2 rfl) ?_
        refine va_iald hx hb hK hP 8 0 rfl rfl (vp_in_nI (by omega) (by omega)) dX1_allLosses_18 ?_
        rw [nI_clamp (n := i) (by omega)]
        refine lv_iadd hx hb dX1_allLosses_19 ?_
        refine lv_istore_n (lv' := [(1, .int ((sumL lo i) + (lo i))), (0, .ref (a 1)), (2, .int (nI i))]) hx hb dX1_allLosses_20 rfl hl (by decide) rfl (fun ls hl => ?_)
        refine lv_iinc (v := nI (i + 1)) (lv' := [(2, .int (nI (i + 1))), (1, .int ((sumL lo i) + (lo i))), (0, .ref (a 1))]) hx hb dX1_allLosses_21 hl (k := 2) rfl (by rw [← nI_1]; rfl) (by decide) rfl (fun ls hl => ?_)
        refine lv_goto (tgt := 4) hx hb dX1_allLosses_24 (by decide) ?_
        exact ih4 (i + 1) (by omega) (by omega) _ _ _ hP hD hS (lv_sub hl [2, 1, 0] rfl)
  have hl0 : lv_has ls 3 [(0, .ref (a 1)), (1, .int (sumL lo 0)), (2, .int (nI 0))] := by
    rw [nI_0]; exact lv_sub hl [2, 1, 0] rfl
  exact hloop4 (n + 1) 0 (by omega) (by omega) _ _ _ hP hD hS hl0
set_option maxHeartbeats 4000000 in
set_option maxRecDepth 100000 in
/-- Shares.stepsWithLosses(k) -/
theorem c_X1_stepsWithLosses (l : Launch) (dC : Nat → ClassId) (dI : Nat → Nat → Nat) (c0 : ClassId) (a : Nat → Nat) (sz : Nat) (n : Nat) (wk sd bt lt lo rk ad vl bg cm : Nat → Int32) (sp gd rf : Int32) (ct : Nat) (rd : Int32) (sm : Int64) (js sn wl : Int32) (k : Int32) (hk : vp_in k n) : Met l yX1_stepsWithLosses wsX1_stepsWithLosses ({ frames := 1, cells := 0, slots := 0, locals := 20 }) (va_Pc [.ref (a 1), .int k] (PX dC dI c0 a (n, wk, sd, bt, lt, lo, rk, ad, vl, bg, cm, sp, gd, rf, ct, rd, sm, js, sn, wl) sz)) (va_Qi (fun (r : Int32) (u : xS) => u = (n, wk, sd, bt, lt, lo, rk, ad, vl, bg, cm, sp, gd, rf, ct, rd, sm, js, sn, wl) ∧ r = swl wk lt lo k) (BX dC dI c0 a (va_A (wX c0 a (n, wk, sd, bt, lt, lo, rk, ad, vl, bg, cm, sp, gd, rf, ct, rd, sm, js, sn, wl)) sz)) (va_A (wX c0 a (n, wk, sd, bt, lt, lo, rk, ad, vl, bg, cm, sp, gd, rf, ct, rd, sm, js, sn, wl)) sz)) 0 0 (va_A (wX c0 a (n, wk, sd, bt, lt, lo, rk, ad, vl, bg, cm, sp, gd, rf, ct, rd, sm, js, sn, wl)) sz) := by
  refine Met.ofW (cc := cX1_stepsWithLosses) (maxL := 2) (ret := (some .int)) (by decide) rfl ?_
  intro p e s m args below meth c s₁ B hml hv
  obtain ⟨rfl, hsz, hP, hK, hD0, hE⟩ := hv
  have hx := B.exec
  have hb := B.bytes
  have hr := B.returns
  have hown : s.vm.findClass RX1 = some m.cls := findClass_of_methodNamed B.named
  have hlocks := B.notSynchronized
  subst hsz
  have hD := hD0.self (sz := s.heap.size)
  generalize hAe : va_A (wX c0 a (n, wk, sd, bt, lt, lo, rk, ad, vl, bg, cm, sp, gd, rf, ct, rd, sm, js, sn, wl)) s.heap.size = A at hD hE ⊢
  have hts := hE.ts (args := ([.ref (a 1), .int k] : List Value).toArray)
  have hA : ∀ q : Nat, s.heap.size ≤ q → A q := fun q h => by rw [← hAe]; exact Or.inr h
  have hS : va_S A s.heap s.heap [] := va_S.rf
  have hP : va_P (dC, dI) vwCl (wX c0 a (n, wk, sd, bt, lt, lo, rk, ad, vl, bg, cm, sp, gd, rf, ct, rd, sm, js, sn, wl)) s.heap := hP
  have hl := lv_entry ([.ref (a 1), .int k]) (n := 2) (Nat.le_of_ble_eq_true rfl)
  rw [lg_entry_eq]
  generalize (lg_sl ([.ref (a 1), .int k]) ++ List.replicate (2 - (lg_sl ([.ref (a 1), .int k])).length) Slot.unset).toArray = ls at hl ⊢
  have hl : lv_has ls 2 [(0, .ref (a 1)), (1, .int k)] := hl
  refine lv_aload_n hx hb dX1_stepsWithLosses_0 rfl (lv_at hl 0 rfl) ?_
  refine va_get (D := (dC, dI)) (ci := 1) (v := .ref (a 4)) (C := RX1) (T := TX1) (N := 6) hx hb hts inX1 hown hK hP 1 rfl rfl 1 (by decide) (hE.t m_60 rfl) (fun _ h9 => h9) rfl dX1_stepsWithLosses_1 ?_
  refine lv_iload_n hx hb dX1_stepsWithLosses_4 rfl (lv_at hl 1 rfl) ?_
  refine va_iald hx hb hK hP 4 0 rfl rfl hk dX1_stepsWithLosses_5 ?_
  refine lv_aload_n hx hb dX1_stepsWithLosses_6 rfl (lv_at hl 0 rfl) ?_
  refine va_get (D := (dC, dI)) (ci := 1) (v := .ref (a 8)) (C := RX1) (T := TX1) (N := 6) hx hb hts inX1 hown hK hP 1 rfl rfl 5 (by decide) (hE.t m_68 rfl) (fun _ h9 => h9) rfl dX1_stepsWithLosses_7 ?_
  refine lv_iload_n hx hb dX1_stepsWithLosses_10 rfl (lv_at hl 1 rfl) ?_
  refine va_iald hx hb hK hP 8 0 rfl rfl hk dX1_stepsWithLosses_11 ?_
  refine lv_aload_n hx hb dX1_stepsWithLosses_12 rfl (lv_at hl 0 rfl) ?_
  refine va_get (D := (dC, dI)) (ci := 1) (v := .ref (a 7)) (C := RX1) (T := TX1) (N := 6) hx hb hts inX1 hown hK hP 1 rfl rfl 4 (by decide) (hE.t m_66 rfl) (fun _ h9 => h9) rfl dX1_stepsWithLosses_13 ?_
  refine lv_iload_n hx hb dX1_stepsWithLosses_16 rfl (lv_at hl 1 rfl) ?_
  refine va_iald hx hb hK hP 7 0 rfl rfl hk dX1_stepsWithLosses_17 ?_
  refine lv_aload_n hx hb dX1_stepsWithLosses_18 rfl (lv_at hl 0 rfl) ?_
  refine va_get (D := (dC, dI)) (ci := 1) (v := .ref (a 4)) (C := RX1) (T := TX1) (N := 6) hx hb hts inX1 hown hK hP 1 rfl rfl 1 (by decide) (hE.t m_60 rfl) (fun _ h9 => h9) rfl dX1_stepsWithLosses_19 ?_
  refine lv_iload_n hx hb dX1_stepsWithLosses_22 rfl (lv_at hl 1 rfl) ?_
  refine va_iald hx hb hK hP 4 0 rfl rfl hk dX1_stepsWithLosses_23 ?_
  refine va_mmin hx hb (hml.trans hl.1.symm) hown (hE.t m_339 rfl) (hE.t m_43 rfl) (hE.t m_22 rfl) (hE.t m_44 rfl) (Nat.le_of_ble_eq_true rfl) (Nat.le_of_ble_eq_true rfl) (by decide) (by decide) dX1_stepsWithLosses_24 ?_
  refine lv_imul hx hb dX1_stepsWithLosses_27 ?_
  refine lv_iadd hx hb dX1_stepsWithLosses_28 ?_
  exact W.iret (v := (wk k.toNatClampNeg) + ((lo k.toNatClampNeg) * (if (wk k.toNatClampNeg) < (lt k.toNatClampNeg) then (wk k.toNatClampNeg) else (lt k.toNatClampNeg)))) hx hb hr (fun t ht hW => ⟨⟨(wk k.toNatClampNeg) + ((lo k.toNatClampNeg) * (if (wk k.toNatClampNeg) < (lt k.toNatClampNeg) then (wk k.toNatClampNeg) else (lt k.toNatClampNeg))), (n, wk, sd, bt, lt, lo, rk, ad, vl, bg, cm, sp, gd, rf, ct, rd, sm, js, sn, wl), rfl, ⟨rfl, rfl⟩, by rw [ht]; exact hP, va_K.moved hW.alike hK, hD⟩, hS.F ht⟩) hS.2.2 dX1_stepsWithLosses_29
