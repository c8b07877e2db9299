set_option maxHeartbeats 4000000 in
set_option maxRecDepth 100000 in
/-- Acts.append(r, v) -/
theorem c_X2_append (l : Launch) (dC : Nat → ClassId) (dI : Nat → Nat → Nat) (c0 : ClassId) (a : Nat → Nat) (sz : Nat) (n : Nat) (wk sd bt lt lo rk ad vl bg cm : Nat → Int32) (sp gd rf : Int32) (ct : Nat) (rd : Int32) (sm : Int64) (js sn wl : Int32) (x : Int32) (v : Int32) (hct : ct < 24) : Met l yX2_append wsX2_append ({ frames := 0, cells := 0, slots := 0, locals := 0 }) (va_Pc [.ref (a 2), .int x, .int v] (PX dC dI c0 a (n, wk, sd, bt, lt, lo, rk, ad, vl, bg, cm, sp, gd, rf, ct, rd, sm, js, sn, wl) sz)) (va_Qi (fun (r : Int32) (u : xS) => u = (n, wk, sd, bt, lt, lo, upd rk ct x, upd ad ct v, vl, bg, cm, sp, gd, rf, ct + 1, rd, sm, js, sn, wl) ∧ r = nI ct) (BX dC dI c0 a (va_A (wX c0 a (n, wk, sd, bt, lt, lo, rk, ad, vl, bg, cm, sp, gd, rf, ct, rd, sm, js, sn, wl)) sz)) (va_A (wX c0 a (n, wk, sd, bt, lt, lo, rk, ad, vl, bg, cm, sp, gd, rf, ct, rd, sm, js, sn, wl)) sz)) 0 0 (va_A (wX c0 a (n, wk, sd, bt, lt, lo, rk, ad, vl, bg, cm, sp, gd, rf, ct, rd, sm, js, sn, wl)) sz) := by
  refine Met.ofW (cc := cX2_append) (maxL := 4) (ret := (some .int)) (by decide) rfl ?_
  intro p e s m args below meth c s₁ B hml hv
  obtain ⟨rfl, hsz, hP, hK, hD0, hE⟩ := hv
  have hx := B.exec
  have hb := B.bytes
  have hr := B.returns
  have hown : s.vm.findClass RX2 = some m.cls := findClass_of_methodNamed B.named
  have hlocks := B.notSynchronized
  subst hsz
  have hD := hD0.self (sz := s.heap.size)
  generalize hAe : va_A (wX c0 a (n, wk, sd, bt, lt, lo, rk, ad, vl, bg, cm, sp, gd, rf, ct, rd, sm, js, sn, wl)) s.heap.size = A at hD hE ⊢
  have hts := hE.ts (args := ([.ref (a 2), .int x, .int v] : List Value).toArray)
  have hA : ∀ q : Nat, s.heap.size ≤ q → A q := fun q h => by rw [← hAe]; exact Or.inr h
  have hS : va_S A s.heap s.heap [] := va_S.rf
  have hP : va_P (dC, dI) vwCl (wX c0 a (n, wk, sd, bt, lt, lo, rk, ad, vl, bg, cm, sp, gd, rf, ct, rd, sm, js, sn, wl)) s.heap := hP
  have hl := lv_entry ([.ref (a 2), .int x, .int v]) (n := 4) (Nat.le_of_ble_eq_true rfl)
  rw [lg_entry_eq]
  generalize (lg_sl ([.ref (a 2), .int x, .int v]) ++ List.replicate (4 - (lg_sl ([.ref (a 2), .int x, .int v])).length) Slot.unset).toArray = ls at hl ⊢
  have hl : lv_has ls 4 [(0, .ref (a 2)), (1, .int x), (2, .int v)] := hl
  refine lv_aload_n hx hb dX2_append_0 rfl (lv_at hl 0 rfl) ?_
  refine va_get (D := (dC, dI)) (ci := 2) (v := .int (nI ct)) (C := RX2) (T := TX2) (N := 3) hx hb hts inX2 hown hK hP 2 rfl rfl 2 (by decide) (hE.t m_95 rfl) (fun _ h9 => h9) rfl dX2_append_1 ?_
  refine lv_istore_n (lv' := [(3, .int (nI ct)), (0, .ref (a 2)), (1, .int x), (2, .int v)]) hx hb dX2_append_4 rfl hl (by decide) rfl (fun ls hl => ?_)
  refine lv_aload_n hx hb dX2_append_5 rfl (lv_at hl 1 rfl) ?_
  refine va_get (D := (dC, dI)) (ci := 2) (v := .ref (a 9)) (C := RX2) (T := TX2) (N := 3) hx hb hts inX2 hown hK hP 2 rfl rfl 0 (by decide) (hE.t m_91 rfl) (fun _ h9 => h9) rfl dX2_append_6 ?_
  refine lv_iload_n hx hb dX2_append_9 rfl (lv_at hl 0 rfl) ?_
  refine lv_iload_n hx hb dX2_append_10 rfl (lv_at hl 2 rfl) ?_
  refine va_iast hx hb hK hP hD hS 9 0 rfl rfl (vp_in_nI (by omega) (by omega)) dX2_append_11 (fun H locs hP hD hS => ?_)
  rw [nI_clamp (n := ct) (by omega)] at hP hD
  have hP : va_P (dC, dI) vwCl (wX c0 a (n, wk, sd, bt, lt, lo, upd rk ct x, ad, vl, bg, cm, sp, gd, rf, ct, rd, sm, js, sn, wl)) H := hP
  have hD : va_D A (wX c0 a (n, wk, sd, bt, lt, lo, upd rk ct x, ad, vl, bg, cm, sp, gd, rf, ct, rd, sm, js, sn, wl)) := hD
  refine lv_aload_n hx hb dX2_append_12 rfl (lv_at hl 1 rfl) ?_
  refine va_get (D := (dC, dI)) (ci := 2) (v := .ref (a 10)) (C := RX2) (T := TX2) (N := 3) hx hb hts inX2 hown hK hP 2 rfl rfl 1 (by decide) (hE.t m_93 rfl) (fun _ h9 => h9) rfl dX2_append_13 ?_
  refine lv_iload_n hx hb dX2_append_16 rfl (lv_at hl 0 rfl) ?_
  refine lv_iload_n hx hb dX2_append_17 rfl (lv_at hl 3 rfl) ?_
  refine va_iast hx hb hK hP hD hS 10 0 rfl rfl (vp_in_nI (by omega) (by omega)) dX2_append_18 (fun H locs hP hD hS => ?_)
  rw [nI_clamp (n := ct) (by omega)] at hP hD
  have hP : va_P (dC, dI) vwCl (wX c0 a (n, wk, sd, bt, lt, lo, upd rk ct x, upd ad ct v, vl, bg, cm, sp, gd, rf, ct, rd, sm, js, sn, wl)) H := hP
  have hD : va_D A (wX c0 a (n, wk, sd, bt, lt, lo, upd rk ct x, upd ad ct v, vl, bg, cm, sp, gd, rf, ct, rd, sm, js, sn, wl)) := hD
  refine lv_aload_n hx hb dX2_append_19 rfl (lv_at hl 1 rfl) ?_
  refine lv_iload_n hx hb dX2_append_20 rfl (lv_at hl 0 rfl) ?_
  refine lv_iconst (v := 1) hx hb dX2_append_21 (by decide) ?_
  refine lv_iadd hx hb dX2_append_22 ?_
  rw [nI_1]
  refine va_put (D := (dC, dI)) (ci := 2) (v := .int (nI (ct + 1))) (ty := .int) (C := RX2) (T := TX2) (N := 3) hx hb hts inX2 tyX2 tyX2_ok nmX2 hown hK hP hD hS 2 rfl rfl 2 (by decide) (hE.t m_95 rfl) (fun _ h9 => h9) rfl (by decide +kernel) rfl rfl (Nat.le_of_ble_eq_true rfl) dX2_append_23 (fun H locs hP hD hS => ?_)
  have hP : va_P (dC, dI) vwCl (wX c0 a (n, wk, sd, bt, lt, lo, upd rk ct x, upd ad ct v, vl, bg, cm, sp, gd, rf, ct + 1, rd, sm, js, sn, wl)) H := hP
  have hD : va_D A (wX c0 a (n, wk, sd, bt, lt, lo, upd rk ct x, upd ad ct v, vl, bg, cm, sp, gd, rf, ct + 1, rd, sm, js, sn, wl)) := hD
  refine lv_iload_n hx hb dX2_append_26 rfl (lv_at hl 0 rfl) ?_
  exact W.iret (v := nI ct) hx hb hr (fun t ht hW => ⟨⟨nI ct, (n, wk, sd, bt, lt, lo, upd rk ct x, upd ad ct v, vl, bg, cm, sp, gd, rf, ct + 1, rd, sm, js, sn, wl), rfl, ⟨rfl, rfl⟩, by rw [ht]; exact hP, va_K.moved hW.alike hK, hD⟩, hS.F ht⟩) hS.2.2 dX2_append_27
