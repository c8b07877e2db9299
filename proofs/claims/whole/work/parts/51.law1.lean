set_option maxHeartbeats 4000000 in
set_option maxRecDepth 100000 in
theorem law_run {p : Program} {l : Launch} {e : Env} {s : State} {m : MethodId} {below : List Frame} {meth : Method} {c : Code} (hl9 : l.stackTraces = false) {dC : Nat → ClassId} {dI : Nat → Nat → Nat} {b L : Nat} {xs : Nat → Int32} (hL : L ≤ 2561) (C0 : lw_At p s m meth c b L xs) (hE : EV (fun q : Nat => s.heap.size ≤ q) s s.heap) {c0 cL : ClassId} {a am : Nat → Nat} {o : Nat} (hK : va_K (dC, dI) vwCl [(c0, .int), (cL, .long)] s) {i : Nat} {u : xS} {v : mS} {g : Nat → Int64} (hi : i + 5 ≤ L) (hR : Rel i u v) (ih : ∀ (i2 : Nat) (u : xS) (v : mS) (g : Nat → Int64), i2 = i + 5 → i2 ≤ L → Rel i2 u v → ∀ (H : Heap) (locs : List Loc) (ls : Array Slot), va_P (dC, dI) vwCl (WO c0 cL a o u g) H → va_P (dC, dI) vwCl (wM c0 am v) H → va_D (fun q : Nat => s.heap.size ≤ q) (wM c0 am v ++ WO c0 cL a o u g) → va_S (fun q : Nat => s.heap.size ≤ q) s.heap H locs → lv_has ls 8 [(0, .ref b), (1, .ref (a 0)), (2, .ref (am 0)), (3, .ref o), (4, .int (nI i2))] → W p l e room_1 s m #[Value.ref b] below meth c H locs (100 + i2) (1000 + 3 * i2) (lw_Z below #[Value.ref b] s) (F0 m 33 ls [])) : ∀ (H : Heap) (locs : List Loc) (ls : Array Slot), va_P (dC, dI) vwCl (WO c0 cL a o u g) H → va_P (dC, dI) vwCl (wM c0 am v) H → va_D (fun q : Nat => s.heap.size ≤ q) (wM c0 am v ++ WO c0 cL a o u g) → va_S (fun q : Nat => s.heap.size ≤ q) s.heap H locs → lv_has ls 8 [(0, .ref b), (1, .ref (a 0)), (2, .ref (am 0)), (3, .ref o), (4, .int (nI i))] → W p l e room_1 s m #[Value.ref b] below meth c H locs (100 + i) (1000 + 3 * i) (lw_Z below #[Value.ref b] s) (F0 m 412 ls []) := by
  obtain ⟨hx, hb, hr, hml, hown, -, hX, hbl, hlocks, hgv⟩ := C0
  have hown : s.vm.findClass RL = some m.cls := hown
  have hA : ∀ q : Nat, s.heap.size ≤ q → (fun q : Nat => s.heap.size ≤ q) q := fun _ h => h
  have hbA : ¬ (fun q : Nat => s.heap.size ≤ q) b := Nat.not_le.mpr hbl
  have hts := hE.ts (args := #[Value.ref b])
  obtain ⟨th, n2, wk2, sd2, bt2, lt2, lo2, ct2, rk2, ad2, sp2, gd2, rf2, sm2, js2, sn2, wl2, vl2, bg2, cm2⟩ := v
  obtain ⟨hn2, hct2⟩ := hR.mok
  have hok := hR.ok
  intro H locs ls hPx hPm hD hS hl
  refine lv_aload_n hx hb dL_law_412 rfl (lv_at hl 1 rfl) ?_
  refine lv_aload_n hx hb dL_law_413 rfl (lv_at hl 0 rfl) ?_
  refine lv_iload hx hb dL_law_414 (lv_at hl 4 rfl) ?_
  refine lv_iconst (v := 1) hx hb dL_law_416 (by decide) ?_
  refine lv_iadd hx hb dL_law_417 ?_
  rw [nad1 i]
  refine va_sld hx hb hX hbl hbA hS (vp_in_nI (n := i + 1) (by omega) (by omega)) dL_law_418 ?_
  rw [nI_clamp (n := i + 1) (by omega)]
  refine lv_aload_n hx hb dL_law_419 rfl (lv_at hl 0 rfl) ?_
  refine lv_iload hx hb dL_law_420 (lv_at hl 4 rfl) ?_
  refine lv_iconst (v := 2) hx hb dL_law_422 (by decide) ?_
  refine lv_iadd hx hb dL_law_423 ?_
  rw [nad2 i]
  refine va_sld hx hb hX hbl hbA hS (vp_in_nI (n := i + 2) (by omega) (by omega)) dL_law_424 ?_
  rw [nI_clamp (n := i + 2) (by omega)]
  refine lv_aload_n hx hb dL_law_425 rfl (lv_at hl 3 rfl) ?_
  have hFx := fre (dr hD) hS hA
  refine va_calli (vx_runSW (As := [.ref (a 0), .int (xs (i + 1)), .int (xs (i + 2)), .ref o]) (rest := []) ⟨hx, hb, hml, hown, hts⟩ (c_L_run l hl9 dC dI c0 cL o g a _ u hok (xs (i + 1)) (xs (i + 2))) (vx_cwSW 4 hts gL_law_L_run rfl rfl rfl (by decide +kernel) ⟨(Nat.le_of_ble_eq_true rfl), (Nat.le_of_ble_eq_true rfl)⟩) ⟨PW_blind, PW_give hPx hK (dr hD) hE hS hFx⟩ rfl rfl hl.1 rfl (lv_room (Nat.le_of_ble_eq_true rfl)) dL_law_426 ⟨by show 100 + i + 1 ≤ 643794; omega, by show 1000 + 3 * i + 6 ≤ 7164688; omega⟩) hS (fun q _ h => hFx q h) hFx (fun r v9 t H1 locs ht hvm hw hB hz1 hk1 hS => ?_)
  obtain ⟨u9, g9⟩ := v9
  obtain ⟨rfl, hw2, hw3⟩ := hw
  have hw2 : u9 = (f_run u (xs (i + 1)) (xs (i + 2))).2.2 := hw2
  have hw3 : g9 = if (f_run u (xs (i + 1)) (xs (i + 2))).1 = 0 then vp_updL g 0 (f_run u (xs (i + 1)) (xs (i + 2))).2.1 else g := hw3
  subst hw2 hw3
  obtain ⟨hP1, -, hD1⟩ := hB
  rw [ht] at hP1
  obtain ⟨hPm, hD⟩ := jnL (Q := wM c0 am (th, n2, wk2, sd2, bt2, lt2, lo2, ct2, rk2, ad2, sp2, gd2, rf2, sm2, js2, sn2, wl2, vl2, bg2, cm2)) (P := WO c0 cL a o u g) hPm hD hk1 hD1 hFx
  have hPx : va_P (dC, dI) vwCl (WO c0 cL a o (f_run u (xs (i + 1)) (xs (i + 2))).2.2 (if (f_run u (xs (i + 1)) (xs (i + 2))).1 = 0 then vp_updL g 0 (f_run u (xs (i + 1)) (xs (i + 2))).2.1 else g)) H1 := hP1
  generalize H1 = H at hPx hPm hS ⊢
  refine lv_istore (lv' := [(5, .int ((f_run u (xs (i + 1)) (xs (i + 2))).1)), (0, .ref b), (1, .ref (a 0)), (2, .ref (am 0)), (3, .ref o), (4, .int (nI i))]) hx hb dL_law_429 hl (by decide) rfl (fun ls hl => ?_)
  refine lv_aload_n hx hb dL_law_431 rfl (lv_at hl 3 rfl) ?_
  refine lv_aload_n hx hb dL_law_432 rfl (lv_at hl 1 rfl) ?_
  refine lv_iload hx hb dL_law_433 (lv_at hl 5 rfl) ?_
  refine lv_iconst (v := 1) hx hb dL_law_435 (by decide) ?_
  refine lv_iadd hx hb dL_law_436 ?_
  rw [nad1 i]
  refine va_sld hx hb hX hbl hbA hS (vp_in_nI (n := i + 1) (by omega) (by omega)) dL_law_437 ?_
  rw [nI_clamp (n := i + 1) (by omega)]
  refine lv_aload_n hx hb dL_law_438 rfl (lv_at hl 1 rfl) ?_
  refine lv_iload hx hb dL_law_439 (lv_at hl 5 rfl) ?_
  refine lv_iconst (v := 2) hx hb dL_law_441 (by decide) ?_
  refine lv_iadd hx hb dL_law_442 ?_
  rw [nad2 i]
  refine va_sld hx hb hX hbl hbA hS (vp_in_nI (n := i + 2) (by omega) (by omega)) dL_law_443 ?_
  rw [nI_clamp (n := i + 2) (by omega)]
  have hFm := fre (dl hD) hS hA
  refine va_calli (va_runV (As := [.int (xs (i + 1)), .int (xs (i + 2))]) (rest := []) ⟨hx, hb, hml, hown, hts⟩ (c_M0_run l dC dI c0 am _ th n2 wk2 sd2 bt2 lt2 lo2 ct2 rk2 ad2 sp2 gd2 rf2 sm2 js2 sn2 wl2 vl2 bg2 cm2 (xs (i + 1)) (xs (i + 2)) hn2 hct2) (cwV 2 hts gL_law_M0_run rfl rfl rfl (by decide +kernel) ⟨(Nat.le_of_ble_eq_true rfl), (Nat.le_of_ble_eq_true rfl)⟩) ⟨PM_blind, va_recv hK hPm (ci := 4) (q0 := 0) rfl rfl, PM_give hPm (hK.sub [0] rfl) (dl hD) hE hS hFm⟩ rfl rfl hl.1 rfl (lv_room (Nat.le_of_ble_eq_true rfl)) dL_law_444 ⟨by show 100 + i + 1 + 0 ≤ 643794; omega, by show 1000 + 3 * i + 6 + 0 ≤ 7164688; omega⟩) hS (fun q _ h => hFm q h) hFm (fun r v2 t H1 locs ht hvm hw hB hz1 hk1 hS => ?_)
  obtain ⟨hP1, -, hD1⟩ := hB
  rw [ht] at hP1
  obtain ⟨hPx, hD⟩ := jnL (Q := WO c0 cL a o (f_run u (xs (i + 1)) (xs (i + 2))).2.2 (if (f_run u (xs (i + 1)) (xs (i + 2))).1 = 0 then vp_updL g 0 (f_run u (xs (i + 1)) (xs (i + 2))).2.1 else g)) (P := wM c0 am (th, n2, wk2, sd2, bt2, lt2, lo2, ct2, rk2, ad2, sp2, gd2, rf2, sm2, js2, sn2, wl2, vl2, bg2, cm2)) hPx (dsw hD) hk1 hD1 hFm
  have hD := dsw hD
  have hPm : va_P (dC, dI) vwCl (wM c0 am v2) H1 := hP1
  generalize H1 = H at hPx hPm hS ⊢
  have h3 := rel_run hR (by omega) (xs (i + 1)) (xs (i + 2))
  rw [hw] at h3
  obtain ⟨t1, t2, t3⟩ := h3
  obtain ⟨th_, n2_, wk2_, sd2_, bt2_, lt2_, lo2_, ct2_, rk2_, ad2_, sp2_, gd2_, rf2_, sm2_, js2_, sn2_, wl2_, vl2_, bg2_, cm2_⟩ := v2
  refine lv_istore (lv' := [(6, .int r), (5, .int ((f_run u (xs (i + 1)) (xs (i + 2))).1)), (0, .ref b), (1, .ref (a 0)), (2, .ref (am 0)), (3, .ref o), (4, .int (nI i))]) hx hb dL_law_447 hl (by decide) rfl (fun ls hl => ?_)
  refine lv_aload_n hx hb dL_law_449 rfl (lv_at hl 4 rfl) ?_
  have hFm := fre (dl hD) hS hA
  refine va_calli (va_runV (As := []) (rest := []) ⟨hx, hb, hml, hown, hts⟩ (c_M0_thrown l dC dI c0 am _ th_ n2_ wk2_ sd2_ bt2_ lt2_ lo2_ ct2_ rk2_ ad2_ sp2_ gd2_ rf2_ sm2_ js2_ sn2_ wl2_ vl2_ bg2_ cm2_) (cwV 0 hts gL_law_M0_thrown rfl rfl rfl (by decide +kernel) ⟨(Nat.le_of_ble_eq_true rfl), (Nat.le_of_ble_eq_true rfl)⟩) ⟨PM_blind, va_recv hK hPm (ci := 4) (q0 := 0) rfl rfl, PM_give hPm (hK.sub [0] rfl) (dl hD) hE hS hFm⟩ rfl rfl hl.1 rfl (lv_room (Nat.le_of_ble_eq_true rfl)) dL_law_450 ⟨by show 100 + i + 1 + 0 + 0 ≤ 643794; omega, by show 1000 + 3 * i + 6 + 0 + 0 ≤ 7164688; omega⟩) hS (fun q _ h => hFm q h) hFm (fun r9 v3 t H1 locs ht hvm hw hB hz1 hk1 hS => ?_)
  obtain ⟨rfl, e9⟩ := hw
  have e9 := e9.symm
  subst e9
  obtain ⟨hP1, -, hD1⟩ := hB
  rw [ht] at hP1
  obtain ⟨hPx, hD⟩ := jnL (Q := WO c0 cL a o (f_run u (xs (i + 1)) (xs (i + 2))).2.2 (if (f_run u (xs (i + 1)) (xs (i + 2))).1 = 0 then vp_updL g 0 (f_run u (xs (i + 1)) (xs (i + 2))).2.1 else g)) (P := wM c0 am (th_, n2_, wk2_, sd2_, bt2_, lt2_, lo2_, ct2_, rk2_, ad2_, sp2_, gd2_, rf2_, sm2_, js2_, sn2_, wl2_, vl2_, bg2_, cm2_)) hPx (dsw hD) hk1 hD1 hFm
  have hD := dsw hD
  have hPm : va_P (dC, dI) vwCl (wM c0 am (th_, n2_, wk2_, sd2_, bt2_, lt2_, lo2_, ct2_, rk2_, ad2_, sp2_, gd2_, rf2_, sm2_, js2_, sn2_, wl2_, vl2_, bg2_, cm2_)) H1 := hP1
  generalize H1 = H at hPx hPm hS ⊢
  refine lv_iload hx hb dL_law_453 (lv_at hl 1 rfl) ?_
  refine lv_icmp_eq (tgt := 460) hx hb dL_law_455 (by decide) (fun c_455 => ?_) (fun c_455 => ?_)
  · skip
    refine lv_iload hx hb dL_law_460 (lv_at hl 1 rfl) ?_
    refine lv_if_ne (tgt := 477) hx hb dL_law_462 (by decide) (fun c_462 => ?_) (fun c_462 => ?_)
    · skip
      refine lv_goto (tgt := 914) hx hb dL_law_477 (by decide) ?_
      refine lv_iinc (v := nI (i + 5)) (lv' := [(4, .int (nI (i + 5))), (6, .int r), (5, .int ((f_run u (xs (i + 1)) (xs (i + 2))).1)), (0, .ref b), (1, .ref (a 0)), (2, .ref (am 0)), (3, .ref o)]) hx hb dL_law_914 hl (k := 6) rfl (by rw [← nad5]; rfl) (by decide) rfl (fun ls hl => ?_)
      refine lv_goto (tgt := 33) hx hb dL_law_917 (by decide) ?_
      refine W.widen (k := 100 + (i + 5)) (n := 1000 + 3 * (i + 5)) (by omega) (by omega) ?_
      exact ih (i + 5) _ _ _ rfl (by omega) (t3.le (by omega)) _ _ _ hPx hPm hD hS (lv_sub hl [3, 4, 5, 6, 0] rfl)
    · skip
      refine lv_aload_n hx hb dL_law_465 rfl (lv_at hl 5 rfl) ?_
      refine lv_iconst (v := 0) hx hb dL_law_466 (by decide) ?_
      refine va_lald hx hb hK hPx 0 1 rfl rfl in01 dL_law_467 ?_
      rw [sb_cl0]
      refine lv_iload hx hb dL_law_468 (lv_at hl 0 rfl) ?_
      refine lv_i2l hx hb dL_law_470 (v := r.toInt64) rfl ?_
      refine W.lcmp hx hb dL_law_471 ?_
      refine lv_if_eq (tgt := 477) hx hb dL_law_472 (by decide) (fun c_472 => ?_) (fun c_472 => ?_)
      · skip
        refine lv_goto (tgt := 914) hx hb dL_law_477 (by decide) ?_
        refine lv_iinc (v := nI (i + 5)) (lv' := [(4, .int (nI (i + 5))), (6, .int r), (5, .int ((f_run u (xs (i + 1)) (xs (i + 2))).1)), (0, .ref b), (1, .ref (a 0)), (2, .ref (am 0)), (3, .ref o)]) hx hb dL_law_914 hl (k := 6) rfl (by rw [← nad5]; rfl) (by decide) rfl (fun ls hl => ?_)
        refine lv_goto (tgt := 33) hx hb dL_law_917 (by decide) ?_
        refine W.widen (k := 100 + (i + 5)) (n := 1000 + 3 * (i + 5)) (by omega) (by omega) ?_
        exact ih (i + 5) _ _ _ rfl (by omega) (t3.le (by omega)) _ _ _ hPx hPm hD hS (lv_sub hl [3, 4, 5, 6, 0] rfl)
      · skip
        exact absurd ((lg_cmp_eq _ _).mpr (show (if (f_run u (xs (i + 1)) (xs (i + 2))).1 = 0 then vp_updL g 0 (f_run u (xs (i + 1)) (xs (i + 2))).2.1 else g) 0 = r.toInt64 from by rw [if_pos c_462, pk_uLs]; exact t2 c_462)) c_472
  · skip
    exact absurd t1 c_455
set_option maxHeartbeats 4000000 in
set_option maxRecDepth 100000 in
theorem law_joined {p : Program} {l : Launch} {e : Env} {s : State} {m : MethodId} {below : List Frame} {meth : Method} {c : Code} (hl9 : l.stackTraces = false) {dC : Nat → ClassId} {dI : Nat → Nat → Nat} {b L : Nat} {xs : Nat → Int32} (hL : L ≤ 2561) (C0 : lw_At p s m meth c b L xs) (hE : EV (fun q : Nat => s.heap.size ≤ q) s s.heap) {c0 cL : ClassId} {a am : Nat → Nat} {o : Nat} (hK : va_K (dC, dI) vwCl [(c0, .int), (cL, .long)] s) {i : Nat} {u : xS} {v : mS} {g : Nat → Int64} (hi : i + 5 ≤ L) (hR : Rel i u v) (ih : ∀ (i2 : Nat) (u : xS) (v : mS) (g : Nat → Int64), i2 = i + 5 → i2 ≤ L → Rel i2 u v → ∀ (H : Heap) (locs : List Loc) (ls : Array Slot), va_P (dC, dI) vwCl (WO c0 cL a o u g) H → va_P (dC, dI) vwCl (wM c0 am v) H → va_D (fun q : Nat => s.heap.size ≤ q) (wM c0 am v ++ WO c0 cL a o u g) → va_S (fun q : Nat => s.heap.size ≤ q) s.heap H locs → lv_has ls 8 [(0, .ref b), (1, .ref (a 0)), (2, .ref (am 0)), (3, .ref o), (4, .int (nI i2))] → W p l e room_1 s m #[Value.ref b] below meth c H locs (100 + i2) (1000 + 3 * i2) (lw_Z below #[Value.ref b] s) (F0 m 33 ls [])) : ∀ (H : Heap) (locs : List Loc) (ls : Array Slot), va_P (dC, dI) vwCl (WO c0 cL a o u g) H → va_P (dC, dI) vwCl (wM c0 am v) H → va_D (fun q : Nat => s.heap.size ≤ q) (wM c0 am v ++ WO c0 cL a o u g) → va_S (fun q : Nat => s.heap.size ≤ q) s.heap H locs → lv_has ls 8 [(0, .ref b), (1, .ref (a 0)), (2, .ref (am 0)), (3, .ref o), (4, .int (nI i))] → W p l e room_1 s m #[Value.ref b] below meth c H locs (100 + i) (1000 + 3 * i) (lw_Z below #[Value.ref b] s) (F0 m 480 ls []) := by
  obtain ⟨hx, hb, hr, hml, hown, -, hX, hbl, hlocks, hgv⟩ := C0
  have hown : s.vm.findClass RL = some m.cls := hown
  have hA : ∀ q : Nat, s.heap.size ≤ q → (fun q : Nat => s.heap.size ≤ q) q := fun _ h => h
  have hbA : ¬ (fun q : Nat => s.heap.size ≤ q) b := Nat.not_le.mpr hbl
  have hts := hE.ts (args := #[Value.ref b])
  obtain ⟨th, n2, wk2, sd2, bt2, lt2, lo2, ct2, rk2, ad2, sp2, gd2, rf2, sm2, js2, sn2, wl2, vl2, bg2, cm2⟩ := v
  obtain ⟨hn2, hct2⟩ := hR.mok
  have hok := hR.ok
  intro H locs ls hPx hPm hD hS hl
  refine lv_aload_n hx hb dL_law_480 rfl (lv_at hl 1 rfl) ?_
  refine lv_aload_n hx hb dL_law_481 rfl (lv_at hl 3 rfl) ?_
  have hFx := fre (dr hD) hS hA
  refine va_calli (vx_runSW (As := [.ref (a 0), .ref o]) (rest := []) ⟨hx, hb, hml, hown, hts⟩ (c_L_joined l hl9 dC dI c0 cL o g a _ u hok ) (vx_cwSW 2 hts gL_law_L_joined rfl rfl rfl (by decide +kernel) ⟨(Nat.le_of_ble_eq_true rfl), (Nat.le_of_ble_eq_true rfl)⟩) ⟨PW_blind, PW_give hPx hK (dr hD) hE hS hFx⟩ rfl rfl hl.1 rfl (lv_room (Nat.le_of_ble_eq_true rfl)) dL_law_482 ⟨by show 100 + i + 1 ≤ 643794; omega, by show 1000 + 3 * i + 6 ≤ 7164688; omega⟩) hS (fun q _ h => hFx q h) hFx (fun r v9 t H1 locs ht hvm hw hB hz1 hk1 hS => ?_)
  obtain ⟨u9, g9⟩ := v9
  obtain ⟨rfl, hw2, hw3⟩ := hw
  have hw2 : u9 = (f_joined u).2.2 := hw2
  have hw3 : g9 = if (f_joined u).1 = 0 then vp_updL g 0 (f_joined u).2.1 else g := hw3
  subst hw2 hw3
  obtain ⟨hP1, -, hD1⟩ := hB
  rw [ht] at hP1
  obtain ⟨hPm, hD⟩ := jnL (Q := wM c0 am (th, n2, wk2, sd2, bt2, lt2, lo2, ct2, rk2, ad2, sp2, gd2, rf2, sm2, js2, sn2, wl2, vl2, bg2, cm2)) (P := WO c0 cL a o u g) hPm hD hk1 hD1 hFx
  have hPx : va_P (dC, dI) vwCl (WO c0 cL a o (f_joined u).2.2 (if (f_joined u).1 = 0 then vp_updL g 0 (f_joined u).2.1 else g)) H1 := hP1
  generalize H1 = H at hPx hPm hS ⊢
  refine lv_istore (lv' := [(5, .int ((f_joined u).1)), (0, .ref b), (1, .ref (a 0)), (2, .ref (am 0)), (3, .ref o), (4, .int (nI i))]) hx hb dL_law_485 hl (by decide) rfl (fun ls hl => ?_)
  refine lv_aload_n hx hb dL_law_487 rfl (lv_at hl 3 rfl) ?_
  have hFm := fre (dl hD) hS hA
  refine va_calll (va_runV (As := []) (rest := []) ⟨hx, hb, hml, hown, hts⟩ (c_M0_joined l dC dI c0 am _ th n2 wk2 sd2 bt2 lt2 lo2 ct2 rk2 ad2 sp2 gd2 rf2 sm2 js2 sn2 wl2 vl2 bg2 cm2  ) (cwV 0 hts gL_law_M0_joined rfl rfl rfl (by decide +kernel) ⟨(Nat.le_of_ble_eq_true rfl), (Nat.le_of_ble_eq_true rfl)⟩) ⟨PM_blind, va_recv hK hPm (ci := 4) (q0 := 0) rfl rfl, PM_give hPm (hK.sub [0] rfl) (dl hD) hE hS hFm⟩ rfl rfl hl.1 rfl (lv_room (Nat.le_of_ble_eq_true rfl)) dL_law_488 ⟨by show 100 + i + 1 + 0 ≤ 643794; omega, by show 1000 + 3 * i + 6 + 0 ≤ 7164688; omega⟩) hS (fun q _ h => hFm q h) hFm (fun r v2 t H1 locs ht hvm hw hB hz1 hk1 hS => ?_)
  obtain ⟨hP1, -, hD1⟩ := hB
  rw [ht] at hP1
  obtain ⟨hPx, hD⟩ := jnL (Q := WO c0 cL a o (f_joined u).2.2 (if (f_joined u).1 = 0 then vp_updL g 0 (f_joined u).2.1 else g)) (P := wM c0 am (th, n2, wk2, sd2, bt2, lt2, lo2, ct2, rk2, ad2, sp2, gd2, rf2, sm2, js2, sn2, wl2, vl2, bg2, cm2)) hPx (dsw hD) hk1 hD1 hFm
  have hD := dsw hD
  have hPm : va_P (dC, dI) vwCl (wM c0 am v2) H1 := hP1
  generalize H1 = H at hPx hPm hS ⊢
  have h3 := rel_joined hR (by omega)
  rw [hw] at h3
  obtain ⟨t1, t2, t3⟩ := h3
  obtain ⟨th_, n2_, wk2_, sd2_, bt2_, lt2_, lo2_, ct2_, rk2_, ad2_, sp2_, gd2_, rf2_, sm2_, js2_, sn2_, wl2_, vl2_, bg2_, cm2_⟩ := v2
  refine lv_lstore (lv' := [(6, .long r), (5, .int ((f_joined u).1)), (0, .ref b), (1, .ref (a 0)), (2, .ref (am 0)), (3, .ref o), (4, .int (nI i))]) hx hb dL_law_491 hl (by decide) rfl (fun ls hl => ?_)
  refine lv_aload_n hx hb dL_law_493 rfl (lv_at hl 4 rfl) ?_
  have hFm := fre (dl hD) hS hA
  refine va_calli (va_runV (As := []) (rest := []) ⟨hx, hb, hml, hown, hts⟩ (c_M0_thrown l dC dI c0 am _ th_ n2_ wk2_ sd2_ bt2_ lt2_ lo2_ ct2_ rk2_ ad2_ sp2_ gd2_ rf2_ sm2_ js2_ sn2_ wl2_ vl2_ bg2_ cm2_) (cwV 0 hts gL_law_M0_thrown rfl rfl rfl (by decide +kernel) ⟨(Nat.le_of_ble_eq_true rfl), (Nat.le_of_ble_eq_true rfl)⟩) ⟨PM_blind, va_recv hK hPm (ci := 4) (q0 := 0) rfl rfl, PM_give hPm (hK.sub [0] rfl) (dl hD) hE hS hFm⟩ rfl rfl hl.1 rfl (lv_room (Nat.le_of_ble_eq_true rfl)) dL_law_494 ⟨by show 100 + i + 1 + 0 + 0 ≤ 643794; omega, by show 1000 + 3 * i + 6 + 0 + 0 ≤ 7164688; omega⟩) hS (fun q _ h => hFm q h) hFm (fun r9 v3 t H1 locs ht hvm hw hB hz1 hk1 hS => ?_)
  obtain ⟨rfl, e9⟩ := hw
  have e9 := e9.symm
  subst e9
  obtain ⟨hP1, -, hD1⟩ := hB
  rw [ht] at hP1
  obtain ⟨hPx, hD⟩ := jnL (Q := WO c0 cL a o (f_joined u).2.2 (if (f_joined u).1 = 0 then vp_updL g 0 (f_joined u).2.1 else g)) (P := wM c0 am (th_, n2_, wk2_, sd2_, bt2_, lt2_, lo2_, ct2_, rk2_, ad2_, sp2_, gd2_, rf2_, sm2_, js2_, sn2_, wl2_, vl2_, bg2_, cm2_)) hPx (dsw hD) hk1 hD1 hFm
  have hD := dsw hD
  have hPm : va_P (dC, dI) vwCl (wM c0 am (th_, n2_, wk2_, sd2_, bt2_, lt2_, lo2_, ct2_, rk2_, ad2_, sp2_, gd2_, rf2_, sm2_, js2_, sn2_, wl2_, vl2_, bg2_, cm2_)) H1 := hP1
  generalize H1 = H at hPx hPm hS ⊢
  refine lv_iload hx hb dL_law_497 (lv_at hl 1 rfl) ?_
  refine lv_icmp_eq (tgt := 504) hx hb dL_law_499 (by decide) (fun c_499 => ?_) (fun c_499 => ?_)
  · skip
    refine lv_iload hx hb dL_law_504 (lv_at hl 1 rfl) ?_
    refine lv_if_ne (tgt := 520) hx hb dL_law_506 (by decide) (fun c_506 => ?_) (fun c_506 => ?_)
    · skip
      refine lv_goto (tgt := 914) hx hb dL_law_520 (by decide) ?_
      refine lv_iinc (v := nI (i + 5)) (lv' := [(4, .int (nI (i + 5))), (6, .long r), (5, .int ((f_joined u).1)), (0, .ref b), (1, .ref (a 0)), (2, .ref (am 0)), (3, .ref o)]) hx hb dL_law_914 hl (k := 6) rfl (by rw [← nad5]; rfl) (by decide) rfl (fun ls hl => ?_)
      refine lv_goto (tgt := 33) hx hb dL_law_917 (by decide) ?_
      refine W.widen (k := 100 + (i + 5)) (n := 1000 + 3 * (i + 5)) (by omega) (by omega) ?_
      exact ih (i + 5) _ _ _ rfl (by omega) (t3.le (by omega)) _ _ _ hPx hPm hD hS (lv_sub hl [3, 4, 5, 6, 0] rfl)
    · skip
      refine lv_aload_n hx hb dL_law_509 rfl (lv_at hl 5 rfl) ?_
      refine lv_iconst (v := 0) hx hb dL_law_510 (by decide) ?_
      refine va_lald hx hb hK hPx 0 1 rfl rfl in01 dL_law_511 ?_
      rw [sb_cl0]
      refine lv_lload hx hb dL_law_512 (lv_at hl 0 rfl) ?_
      refine W.lcmp hx hb dL_law_514 ?_
      refine lv_if_eq (tgt := 520) hx hb dL_law_515 (by decide) (fun c_515 => ?_) (fun c_515 => ?_)
      · skip
        refine lv_goto (tgt := 914) hx hb dL_law_520 (by decide) ?_
        refine lv_iinc (v := nI (i + 5)) (lv' := [(4, .int (nI (i + 5))), (6, .long r), (5, .int ((f_joined u).1)), (0, .ref b), (1, .ref (a 0)), (2, .ref (am 0)), (3, .ref o)]) hx hb dL_law_914 hl (k := 6) rfl (by rw [← nad5]; rfl) (by decide) rfl (fun ls hl => ?_)
        refine lv_goto (tgt := 33) hx hb dL_law_917 (by decide) ?_
        refine W.widen (k := 100 + (i + 5)) (n := 1000 + 3 * (i + 5)) (by omega) (by omega) ?_
        exact ih (i + 5) _ _ _ rfl (by omega) (t3.le (by omega)) _ _ _ hPx hPm hD hS (lv_sub hl [3, 4, 5, 6, 0] rfl)
      · skip
        exact absurd ((lg_cmp_eq _ _).mpr (show (if (f_joined u).1 = 0 then vp_updL g 0 (f_joined u).2.1 else g) 0 = r from by rw [if_pos c_506, pk_uLs]; exact t2 c_506)) c_515
  · skip
    exact absurd t1 c_499
set_option maxHeartbeats 4000000 in
set_option maxRecDepth 100000 in
theorem law_many {p : Program} {l : Launch} {e : Env} {s : State} {m : MethodId} {below : List Frame} {meth : Method} {c : Code} (hl9 : l.stackTraces = false) {dC : Nat → ClassId} {dI : Nat → Nat → Nat} {b L : Nat} {xs : Nat → Int32} (hL : L ≤ 2561) (C0 : lw_At p s m meth c b L xs) (hE : EV (fun q : Nat => s.heap.size ≤ q) s s.heap) {c0 cL : ClassId} {a am : Nat → Nat} {o : Nat} (hK : va_K (dC, dI) vwCl [(c0, .int), (cL, .long)] s) {i : Nat} {u : xS} {v : mS} {g : Nat → Int64} (hi : i + 5 ≤ L) (hR : Rel i u v) (ih : ∀ (i2 : Nat) (u : xS) (v : mS) (g : Nat → Int64), i2 = i + 5 → i2 ≤ L → Rel i2 u v → ∀ (H : Heap) (locs : List Loc) (ls : Array Slot), va_P (dC, dI) vwCl (WO c0 cL a o u g) H → va_P (dC, dI) vwCl (wM c0 am v) H → va_D (fun q : Nat => s.heap.size ≤ q) (wM c0 am v ++ WO c0 cL a o u g) → va_S (fun q : Nat => s.heap.size ≤ q) s.heap H locs → lv_has ls 8 [(0, .ref b), (1, .ref (a 0)), (2, .ref (am 0)), (3, .ref o), (4, .int (nI i2))] → W p l e room_1 s m #[Value.ref b] below meth c H locs (100 + i2) (1000 + 3 * i2) (lw_Z below #[Value.ref b] s) (F0 m 33 ls [])) : ∀ (H : Heap) (locs : List Loc) (ls : Array Slot), va_P (dC, dI) vwCl (WO c0 cL a o u g) H → va_P (dC, dI) vwCl (wM c0 am v) H → va_D (fun q : Nat => s.heap.size ≤ q) (wM c0 am v ++ WO c0 cL a o u g) → va_S (fun q : Nat => s.heap.size ≤ q) s.heap H locs → lv_has ls 8 [(0, .ref b), (1, .ref (a 0)), (2, .ref (am 0)), (3, .ref o), (4, .int (nI i))] → W p l e room_1 s m #[Value.ref b] below meth c H locs (100 + i) (1000 + 3 * i) (lw_Z below #[Value.ref b] s) (F0 m 523 ls []) := by
  obtain ⟨hx, hb, hr, hml, hown, -, hX, hbl, hlocks, hgv⟩ := C0
  have hown : s.vm.findClass RL = some m.cls := hown
  have hA : ∀ q : Nat, s.heap.size ≤ q → (fun q : Nat => s.heap.size ≤ q) q := fun _ h => h
  have hbA : ¬ (fun q : Nat => s.heap.size ≤ q) b := Nat.not_le.mpr hbl
  have hts := hE.ts (args := #[Value.ref b])
  obtain ⟨th, n2, wk2, sd2, bt2, lt2, lo2, ct2, rk2, ad2, sp2, gd2, rf2, sm2, js2, sn2, wl2, vl2, bg2, cm2⟩ := v
  obtain ⟨hn2, hct2⟩ := hR.mok
  have hok := hR.ok
  intro H locs ls hPx hPm hD hS hl
  refine lv_aload_n hx hb dL_law_523 rfl (lv_at hl 1 rfl) ?_
  refine lv_aload_n hx hb dL_law_524 rfl (lv_at hl 3 rfl) ?_
  have hFx := fre (dr hD) hS hA
  refine va_calli (vx_runSW (As := [.ref (a 0), .ref o]) (rest := []) ⟨hx, hb, hml, hown, hts⟩ (c_L_many l hl9 dC dI c0 cL o g a _ u hok ) (vx_cwSW 2 hts gL_law_L_many rfl rfl rfl (by decide +kernel) ⟨(Nat.le_of_ble_eq_true rfl), (Nat.le_of_ble_eq_true rfl)⟩) ⟨PW_blind, PW_give hPx hK (dr hD) hE hS hFx⟩ rfl rfl hl.1 rfl (lv_room (Nat.le_of_ble_eq_true rfl)) dL_law_525 ⟨by show 100 + i + 1 ≤ 643794; omega, by show 1000 + 3 * i + 6 ≤ 7164688; omega⟩) hS (fun q _ h => hFx q h) hFx (fun r v9 t H1 locs ht hvm hw hB hz1 hk1 hS => ?_)
  obtain ⟨u9, g9⟩ := v9
  obtain ⟨rfl, hw2, hw3⟩ := hw
  have hw2 : u9 = (f_many u).2.2 := hw2
  have hw3 : g9 = if (f_many u).1 = 0 then vp_updL g 0 (f_many u).2.1 else g := hw3
  subst hw2 hw3
  obtain ⟨hP1, -, hD1⟩ := hB
  rw [ht] at hP1
  obtain ⟨hPm, hD⟩ := jnL (Q := wM c0 am (th, n2, wk2, sd2, bt2, lt2, lo2, ct2, rk2, ad2, sp2, gd2, rf2, sm2, js2, sn2, wl2, vl2, bg2, cm2)) (P := WO c0 cL a o u g) hPm hD hk1 hD1 hFx
  have hPx : va_P (dC, dI) vwCl (WO c0 cL a o (f_many u).2.2 (if (f_many u).1 = 0 then vp_updL g 0 (f_many u).2.1 else g)) H1 := hP1
  generalize H1 = H at hPx hPm hS ⊢
  refine lv_istore (lv' := [(5, .int ((f_many u).1)), (0, .ref b), (1, .ref (a 0)), (2, .ref (am 0)), (3, .ref o), (4, .int (nI i))]) hx hb dL_law_528 hl (by decide) rfl (fun ls hl => ?_)
  refine lv_aload_n hx hb dL_law_530 rfl (lv_at hl 3 rfl) ?_
  have hFm := fre (dl hD) hS hA
  refine va_calli (va_runV (As := []) (rest := []) ⟨hx, hb, hml, hown, hts⟩ (c_M0_many l dC dI c0 am _ th n2 wk2 sd2 bt2 lt2 lo2 ct2 rk2 ad2 sp2 gd2 rf2 sm2 js2 sn2 wl2 vl2 bg2 cm2  ) (cwV 0 hts gL_law_M0_many rfl rfl rfl (by decide +kernel) ⟨(Nat.le_of_ble_eq_true rfl), (Nat.le_of_ble_eq_true rfl)⟩) ⟨PM_blind, va_recv hK hPm (ci := 4) (q0 := 0) rfl rfl, PM_give hPm (hK.sub [0] rfl) (dl hD) hE hS hFm⟩ rfl rfl hl.1 rfl (lv_room (Nat.le_of_ble_eq_true rfl)) dL_law_531 ⟨by show 100 + i + 1 + 0 ≤ 643794; omega, by show 1000 + 3 * i + 6 + 0 ≤ 7164688; omega⟩) hS (fun q _ h => hFm q h) hFm (fun r v2 t H1 locs ht hvm hw hB hz1 hk1 hS => ?_)
  obtain ⟨hP1, -, hD1⟩ := hB
  rw [ht] at hP1
  obtain ⟨hPx, hD⟩ := jnL (Q := WO c0 cL a o (f_many u).2.2 (if (f_many u).1 = 0 then vp_updL g 0 (f_many u).2.1 else g)) (P := wM c0 am (th, n2, wk2, sd2, bt2, lt2, lo2, ct2, rk2, ad2, sp2, gd2, rf2, sm2, js2, sn2, wl2, vl2, bg2, cm2)) hPx (dsw hD) hk1 hD1 hFm
  have hD := dsw hD
  have hPm : va_P (dC, dI) vwCl (wM c0 am v2) H1 := hP1
  generalize H1 = H at hPx hPm hS ⊢
  have h3 := rel_many hR (by omega)
  rw [hw] at h3
  obtain ⟨t1, t2, t3⟩ := h3
  obtain ⟨th_, n2_, wk2_, sd2_, bt2_, lt2_, lo2_, ct2_, rk2_, ad2_, sp2_, gd2_, rf2_, sm2_, js2_, sn2_, wl2_, vl2_, bg2_, cm2_⟩ := v2
  refine lv_istore (lv' := [(6, .int r), (5, .int ((f_many u).1)), (0, .ref b), (1, .ref (a 0)), (2, .ref (am 0)), (3, .ref o), (4, .int (nI i))]) hx hb dL_law_534 hl (by decide) rfl (fun ls hl => ?_)
  refine lv_aload_n hx hb dL_law_536 rfl (lv_at hl 4 rfl) ?_
  have hFm := fre (dl hD) hS hA
  refine va_calli (va_runV (As := []) (rest := []) ⟨hx, hb, hml, hown, hts⟩ (c_M0_thrown l dC dI c0 am _ th_ n2_ wk2_ sd2_ bt2_ lt2_ lo2_ ct2_ rk2_ ad2_ sp2_ gd2_ rf2_ sm2_ js2_ sn2_ wl2_ vl2_ bg2_ cm2_) (cwV 0 hts gL_law_M0_thrown rfl rfl rfl (by decide +kernel) ⟨(Nat.le_of_ble_eq_true rfl), (Nat.le_of_ble_eq_true rfl)⟩) ⟨PM_blind, va_recv hK hPm (ci := 4) (q0 := 0) rfl rfl, PM_give hPm (hK.sub [0] rfl) (dl hD) hE hS hFm⟩ rfl rfl hl.1 rfl (lv_room (Nat.le_of_ble_eq_true rfl)) dL_law_537 ⟨by show 100 + i + 1 + 0 + 0 ≤ 643794; omega, by show 1000 + 3 * i + 6 + 0 + 0 ≤ 7164688; omega⟩) hS (fun q _ h => hFm q h) hFm (fun r9 v3 t H1 locs ht hvm hw hB hz1 hk1 hS => ?_)
  obtain ⟨rfl, e9⟩ := hw
  have e9 := e9.symm
  subst e9
  obtain ⟨hP1, -, hD1⟩ := hB
  rw [ht] at hP1
  obtain ⟨hPx, hD⟩ := jnL (Q := WO c0 cL a o (f_many u).2.2 (if (f_many u).1 = 0 then vp_updL g 0 (f_many u).2.1 else g)) (P := wM c0 am (th_, n2_, wk2_, sd2_, bt2_, lt2_, lo2_, ct2_, rk2_, ad2_, sp2_, gd2_, rf2_, sm2_, js2_, sn2_, wl2_, vl2_, bg2_, cm2_)) hPx (dsw hD) hk1 hD1 hFm
  have hD := dsw hD
  have hPm : va_P (dC, dI) vwCl (wM c0 am (th_, n2_, wk2_, sd2_, bt2_, lt2_, lo2_, ct2_, rk2_, ad2_, sp2_, gd2_, rf2_, sm2_, js2_, sn2_, wl2_, vl2_, bg2_, cm2_)) H1 := hP1
  generalize H1 = H at hPx hPm hS ⊢
  refine lv_iload hx hb dL_law_540 (lv_at hl 1 rfl) ?_
  refine lv_icmp_eq (tgt := 547) hx hb dL_law_542 (by decide) (fun c_542 => ?_) (fun c_542 => ?_)
  · skip
    refine lv_iload hx hb dL_law_547 (lv_at hl 1 rfl) ?_
    refine lv_if_ne (tgt := 564) hx hb dL_law_549 (by decide) (fun c_549 => ?_) (fun c_549 => ?_)
    · skip
      refine lv_goto (tgt := 914) hx hb dL_law_564 (by decide) ?_
      refine lv_iinc (v := nI (i + 5)) (lv' := [(4, .int (nI (i + 5))), (6, .int r), (5, .int ((f_many u).1)), (0, .ref b), (1, .ref (a 0)), (2, .ref (am 0)), (3, .ref o)]) hx hb dL_law_914 hl (k := 6) rfl (by rw [← nad5]; rfl) (by decide) rfl (fun ls hl => ?_)
      refine lv_goto (tgt := 33) hx hb dL_law_917 (by decide) ?_
      refine W.widen (k := 100 + (i + 5)) (n := 1000 + 3 * (i + 5)) (by omega) (by omega) ?_
      exact ih (i + 5) _ _ _ rfl (by omega) (t3.le (by omega)) _ _ _ hPx hPm hD hS (lv_sub hl [3, 4, 5, 6, 0] rfl)
    · skip
      refine lv_aload_n hx hb dL_law_552 rfl (lv_at hl 5 rfl) ?_
      refine lv_iconst (v := 0) hx hb dL_law_553 (by decide) ?_
      refine va_lald hx hb hK hPx 0 1 rfl rfl in01 dL_law_554 ?_
      rw [sb_cl0]
      refine lv_iload hx hb dL_law_555 (lv_at hl 0 rfl) ?_
      refine lv_i2l hx hb dL_law_557 (v := r.toInt64) rfl ?_
      refine W.lcmp hx hb dL_law_558 ?_
      refine lv_if_eq (tgt := 564) hx hb dL_law_559 (by decide) (fun c_559 => ?_) (fun c_559 => ?_)
      · skip
        refine lv_goto (tgt := 914) hx hb dL_law_564 (by decide) ?_
        refine lv_iinc (v := nI (i + 5)) (lv' := [(4, .int (nI (i + 5))), (6, .int r), (5, .int ((f_many u).1)), (0, .ref b), (1, .ref (a 0)), (2, .ref (am 0)), (3, .ref o)]) hx hb dL_law_914 hl (k := 6) rfl (by rw [← nad5]; rfl) (by decide) rfl (fun ls hl => ?_)
        refine lv_goto (tgt := 33) hx hb dL_law_917 (by decide) ?_
        refine W.widen (k := 100 + (i + 5)) (n := 1000 + 3 * (i + 5)) (by omega) (by omega) ?_
        exact ih (i + 5) _ _ _ rfl (by omega) (t3.le (by omega)) _ _ _ hPx hPm hD hS (lv_sub hl [3, 4, 5, 6, 0] rfl)
      · skip
        exact absurd ((lg_cmp_eq _ _).mpr (show (if (f_many u).1 = 0 then vp_updL g 0 (f_many u).2.1 else g) 0 = r.toInt64 from by rw [if_pos c_549, pk_uLs]; exact t2 c_549)) c_559
  · skip
    exact absurd t1 c_542
set_option maxHeartbeats 4000000 in
set_option maxRecDepth 100000 in
theorem law_value {p : Program} {l : Launch} {e : Env} {s : State} {m : MethodId} {below : List Frame} {meth : Method} {c : Code} (hl9 : l.stackTraces = false) {dC : Nat → ClassId} {dI : Nat → Nat → Nat} {b L : Nat} {xs : Nat → Int32} (hL : L ≤ 2561) (C0 : lw_At p s m meth c b L xs) (hE : EV (fun q : Nat => s.heap.size ≤ q) s s.heap) {c0 cL : ClassId} {a am : Nat → Nat} {o : Nat} (hK : va_K (dC, dI) vwCl [(c0, .int), (cL, .long)] s) {i : Nat} {u : xS} {v : mS} {g : Nat → Int64} (hi : i + 5 ≤ L) (hR : Rel i u v) (ih : ∀ (i2 : Nat) (u : xS) (v : mS) (g : Nat → Int64), i2 = i + 5 → i2 ≤ L → Rel i2 u v → ∀ (H : Heap) (locs : List Loc) (ls : Array Slot), va_P (dC, dI) vwCl (WO c0 cL a o u g) H → va_P (dC, dI) vwCl (wM c0 am v) H → va_D (fun q : Nat => s.heap.size ≤ q) (wM c0 am v ++ WO c0 cL a o u g) → va_S (fun q : Nat => s.heap.size ≤ q) s.heap H locs → lv_has ls 8 [(0, .ref b), (1, .ref (a 0)), (2, .ref (am 0)), (3, .ref o), (4, .int (nI i2))] → W p l e room_1 s m #[Value.ref b] below meth c H locs (100 + i2) (1000 + 3 * i2) (lw_Z below #[Value.ref b] s) (F0 m 33 ls [])) : ∀ (H : Heap) (locs : List Loc) (ls : Array Slot), va_P (dC, dI) vwCl (WO c0 cL a o u g) H → va_P (dC, dI) vwCl (wM c0 am v) H → va_D (fun q : Nat => s.heap.size ≤ q) (wM c0 am v ++ WO c0 cL a o u g) → va_S (fun q : Nat => s.heap.size ≤ q) s.heap H locs → lv_has ls 8 [(0, .ref b), (1, .ref (a 0)), (2, .ref (am 0)), (3, .ref o), (4, .int (nI i))] → W p l e room_1 s m #[Value.ref b] below meth c H locs (100 + i) (1000 + 3 * i) (lw_Z below #[Value.ref b] s) (F0 m 567 ls []) := by
  obtain ⟨hx, hb, hr, hml, hown, -, hX, hbl, hlocks, hgv⟩ := C0
  have hown : s.vm.findClass RL = some m.cls := hown
  have hA : ∀ q : Nat, s.heap.size ≤ q → (fun q : Nat => s.heap.size ≤ q) q := fun _ h => h
  have hbA : ¬ (fun q : Nat => s.heap.size ≤ q) b := Nat.not_le.mpr hbl
  have hts := hE.ts (args := #[Value.ref b])
  obtain ⟨th, n2, wk2, sd2, bt2, lt2, lo2, ct2, rk2, ad2, sp2, gd2, rf2, sm2, js2, sn2, wl2, vl2, bg2, cm2⟩ := v
  obtain ⟨hn2, hct2⟩ := hR.mok
  have hok := hR.ok
  intro H locs ls hPx hPm hD hS hl
  refine lv_aload_n hx hb dL_law_567 rfl (lv_at hl 1 rfl) ?_
  refine lv_aload_n hx hb dL_law_568 rfl (lv_at hl 0 rfl) ?_
  refine lv_iload hx hb dL_law_569 (lv_at hl 4 rfl) ?_
  refine lv_iconst (v := 1) hx hb dL_law_571 (by decide) ?_
  refine lv_iadd hx hb dL_law_572 ?_
  rw [nad1 i]
  refine va_sld hx hb hX hbl hbA hS (vp_in_nI (n := i + 1) (by omega) (by omega)) dL_law_573 ?_
  rw [nI_clamp (n := i + 1) (by omega)]
  refine lv_aload_n hx hb dL_law_574 rfl (lv_at hl 3 rfl) ?_
  have hFx := fre (dr hD) hS hA
  refine va_calli (vx_runSW (As := [.ref (a 0), .int (xs (i + 1)), .ref o]) (rest := []) ⟨hx, hb, hml, hown, hts⟩ (c_L_value l hl9 dC dI c0 cL o g a _ u hok (xs (i + 1))) (vx_cwSW 3 hts gL_law_L_value rfl rfl rfl (by decide +kernel) ⟨(Nat.le_of_ble_eq_true rfl), (Nat.le_of_ble_eq_true rfl)⟩) ⟨PW_blind, PW_give hPx hK (dr hD) hE hS hFx⟩ rfl rfl hl.1 rfl (lv_room (Nat.le_of_ble_eq_true rfl)) dL_law_575 ⟨by show 100 + i + 2 ≤ 643794; omega, by show 1000 + 3 * i + 12 ≤ 7164688; omega⟩) hS (fun q _ h => hFx q h) hFx (fun r v9 t H1 locs ht hvm hw hB hz1 hk1 hS => ?_)
  obtain ⟨u9, g9⟩ := v9
  obtain ⟨rfl, hw2, hw3⟩ := hw
  have hw2 : u9 = (f_value u (xs (i + 1))).2.2 := hw2
  have hw3 : g9 = if (f_value u (xs (i + 1))).1 = 0 then vp_updL g 0 (f_value u (xs (i + 1))).2.1 else g := hw3
  subst hw2 hw3
  obtain ⟨hP1, -, hD1⟩ := hB
  rw [ht] at hP1
  obtain ⟨hPm, hD⟩ := jnL (Q := wM c0 am (th, n2, wk2, sd2, bt2, lt2, lo2, ct2, rk2, ad2, sp2, gd2, rf2, sm2, js2, sn2, wl2, vl2, bg2, cm2)) (P := WO c0 cL a o u g) hPm hD hk1 hD1 hFx
  have hPx : va_P (dC, dI) vwCl (WO c0 cL a o (f_value u (xs (i + 1))).2.2 (if (f_value u (xs (i + 1))).1 = 0 then vp_updL g 0 (f_value u (xs (i + 1))).2.1 else g)) H1 := hP1
  generalize H1 = H at hPx hPm hS ⊢
  refine lv_istore (lv' := [(5, .int ((f_value u (xs (i + 1))).1)), (0, .ref b), (1, .ref (a 0)), (2, .ref (am 0)), (3, .ref o), (4, .int (nI i))]) hx hb dL_law_578 hl (by decide) rfl (fun ls hl => ?_)
  refine lv_aload_n hx hb dL_law_580 rfl (lv_at hl 3 rfl) ?_
  refine lv_aload_n hx hb dL_law_581 rfl (lv_at hl 1 rfl) ?_
  refine lv_iload hx hb dL_law_582 (lv_at hl 5 rfl) ?_
  refine lv_iconst (v := 1) hx hb dL_law_584 (by decide) ?_
  refine lv_iadd hx hb dL_law_585 ?_
  rw [nad1 i]
  refine va_sld hx hb hX hbl hbA hS (vp_in_nI (n := i + 1) (by omega) (by omega)) dL_law_586 ?_
  rw [nI_clamp (n := i + 1) (by omega)]
  have hFm := fre (dl hD) hS hA
  refine va_calli (va_runV (As := [.int (xs (i + 1))]) (rest := []) ⟨hx, hb, hml, hown, hts⟩ (c_M0_value l dC dI c0 am _ th n2 wk2 sd2 bt2 lt2 lo2 ct2 rk2 ad2 sp2 gd2 rf2 sm2 js2 sn2 wl2 vl2 bg2 cm2 (xs (i + 1)) hn2) (cwV 1 hts gL_law_M0_value rfl rfl rfl (by decide +kernel) ⟨(Nat.le_of_ble_eq_true rfl), (Nat.le_of_ble_eq_true rfl)⟩) ⟨PM_blind, va_recv hK hPm (ci := 4) (q0 := 0) rfl rfl, PM_give hPm (hK.sub [0] rfl) (dl hD) hE hS hFm⟩ rfl rfl hl.1 rfl (lv_room (Nat.le_of_ble_eq_true rfl)) dL_law_587 ⟨by show 100 + i + 2 + 0 ≤ 643794; omega, by show 1000 + 3 * i + 12 + 0 ≤ 7164688; omega⟩) hS (fun q _ h => hFm q h) hFm (fun r v2 t H1 locs ht hvm hw hB hz1 hk1 hS => ?_)
  obtain ⟨hP1, -, hD1⟩ := hB
  rw [ht] at hP1
  obtain ⟨hPx, hD⟩ := jnL (Q := WO c0 cL a o (f_value u (xs (i + 1))).2.2 (if (f_value u (xs (i + 1))).1 = 0 then vp_updL g 0 (f_value u (xs (i + 1))).2.1 else g)) (P := wM c0 am (th, n2, wk2, sd2, bt2, lt2, lo2, ct2, rk2, ad2, sp2, gd2, rf2, sm2, js2, sn2, wl2, vl2, bg2, cm2)) hPx (dsw hD) hk1 hD1 hFm
  have hD := dsw hD
  have hPm : va_P (dC, dI) vwCl (wM c0 am v2) H1 := hP1
  generalize H1 = H at hPx hPm hS ⊢
  have h3 := rel_value hR (by omega) (xs (i + 1))
  rw [hw] at h3
  obtain ⟨t1, t2, t3⟩ := h3
  obtain ⟨th_, n2_, wk2_, sd2_, bt2_, lt2_, lo2_, ct2_, rk2_, ad2_, sp2_, gd2_, rf2_, sm2_, js2_, sn2_, wl2_, vl2_, bg2_, cm2_⟩ := v2
  refine lv_istore (lv' := [(6, .int r), (5, .int ((f_value u (xs (i + 1))).1)), (0, .ref b), (1, .ref (a 0)), (2, .ref (am 0)), (3, .ref o), (4, .int (nI i))]) hx hb dL_law_590 hl (by decide) rfl (fun ls hl => ?_)
  refine lv_aload_n hx hb dL_law_592 rfl (lv_at hl 4 rfl) ?_
  have hFm := fre (dl hD) hS hA
  refine va_calli (va_runV (As := []) (rest := []) ⟨hx, hb, hml, hown, hts⟩ (c_M0_thrown l dC dI c0 am _ th_ n2_ wk2_ sd2_ bt2_ lt2_ lo2_ ct2_ rk2_ ad2_ sp2_ gd2_ rf2_ sm2_ js2_ sn2_ wl2_ vl2_ bg2_ cm2_) (cwV 0 hts gL_law_M0_thrown rfl rfl rfl (by decide +kernel) ⟨(Nat.le_of_ble_eq_true rfl), (Nat.le_of_ble_eq_true rfl)⟩) ⟨PM_blind, va_recv hK hPm (ci := 4) (q0 := 0) rfl rfl, PM_give hPm (hK.sub [0] rfl) (dl hD) hE hS hFm⟩ rfl rfl hl.1 rfl (lv_room (Nat.le_of_ble_eq_true rfl)) dL_law_593 ⟨by show 100 + i + 2 + 0 + 0 ≤ 643794; omega, by show 1000 + 3 * i + 12 + 0 + 0 ≤ 7164688; omega⟩) hS (fun q _ h => hFm q h) hFm (fun r9 v3 t H1 locs ht hvm hw hB hz1 hk1 hS => ?_)
  obtain ⟨rfl, e9⟩ := hw
  have e9 := e9.symm
  subst e9
  obtain ⟨hP1, -, hD1⟩ := hB
  rw [ht] at hP1
  obtain ⟨hPx, hD⟩ := jnL (Q := WO c0 cL a o (f_value u (xs (i + 1))).2.2 (if (f_value u (xs (i + 1))).1 = 0 then vp_updL g 0 (f_value u (xs (i + 1))).2.1 else g)) (P := wM c0 am (th_, n2_, wk2_, sd2_, bt2_, lt2_, lo2_, ct2_, rk2_, ad2_, sp2_, gd2_, rf2_, sm2_, js2_, sn2_, wl2_, vl2_, bg2_, cm2_)) hPx (dsw hD) hk1 hD1 hFm
  have hD := dsw hD
  have hPm : va_P (dC, dI) vwCl (wM c0 am (th_, n2_, wk2_, sd2_, bt2_, lt2_, lo2_, ct2_, rk2_, ad2_, sp2_, gd2_, rf2_, sm2_, js2_, sn2_, wl2_, vl2_, bg2_, cm2_)) H1 := hP1
  generalize H1 = H at hPx hPm hS ⊢
  refine lv_iload hx hb dL_law_596 (lv_at hl 1 rfl) ?_
  refine lv_icmp_eq (tgt := 603) hx hb dL_law_598 (by decide) (fun c_598 => ?_) (fun c_598 => ?_)
  · skip
    refine lv_iload hx hb dL_law_603 (lv_at hl 1 rfl) ?_
    refine lv_if_ne (tgt := 620) hx hb dL_law_605 (by decide) (fun c_605 => ?_) (fun c_605 => ?_)
    · skip
      refine lv_goto (tgt := 914) hx hb dL_law_620 (by decide) ?_
      refine lv_iinc (v := nI (i + 5)) (lv' := [(4, .int (nI (i + 5))), (6, .int r), (5, .int ((f_value u (xs (i + 1))).1)), (0, .ref b), (1, .ref (a 0)), (2, .ref (am 0)), (3, .ref o)]) hx hb dL_law_914 hl (k := 6) rfl (by rw [← nad5]; rfl) (by decide) rfl (fun ls hl => ?_)
      refine lv_goto (tgt := 33) hx hb dL_law_917 (by decide) ?_
      refine W.widen (k := 100 + (i + 5)) (n := 1000 + 3 * (i + 5)) (by omega) (by omega) ?_
      exact ih (i + 5) _ _ _ rfl (by omega) (t3.le (by omega)) _ _ _ hPx hPm hD hS (lv_sub hl [3, 4, 5, 6, 0] rfl)
    · skip
      refine lv_aload_n hx hb dL_law_608 rfl (lv_at hl 5 rfl) ?_
      refine lv_iconst (v := 0) hx hb dL_law_609 (by decide) ?_
      refine va_lald hx hb hK hPx 0 1 rfl rfl in01 dL_law_610 ?_
      rw [sb_cl0]
      refine lv_iload hx hb dL_law_611 (lv_at hl 0 rfl) ?_
      refine lv_i2l hx hb dL_law_613 (v := r.toInt64) rfl ?_
      refine W.lcmp hx hb dL_law_614 ?_
      refine lv_if_eq (tgt := 620) hx hb dL_law_615 (by decide) (fun c_615 => ?_) (fun c_615 => ?_)
      · skip
        refine lv_goto (tgt := 914) hx hb dL_law_620 (by decide) ?_
        refine lv_iinc (v := nI (i + 5)) (lv' := [(4, .int (nI (i + 5))), (6, .int r), (5, .int ((f_value u (xs (i + 1))).1)), (0, .ref b), (1, .ref (a 0)), (2, .ref (am 0)), (3, .ref o)]) hx hb dL_law_914 hl (k := 6) rfl (by rw [← nad5]; rfl) (by decide) rfl (fun ls hl => ?_)
        refine lv_goto (tgt := 33) hx hb dL_law_917 (by decide) ?_
        refine W.widen (k := 100 + (i + 5)) (n := 1000 + 3 * (i + 5)) (by omega) (by omega) ?_
        exact ih (i + 5) _ _ _ rfl (by omega) (t3.le (by omega)) _ _ _ hPx hPm hD hS (lv_sub hl [3, 4, 5, 6, 0] rfl)
      · skip
        exact absurd ((lg_cmp_eq _ _).mpr (show (if (f_value u (xs (i + 1))).1 = 0 then vp_updL g 0 (f_value u (xs (i + 1))).2.1 else g) 0 = r.toInt64 from by rw [if_pos c_605, pk_uLs]; exact t2 c_605)) c_615
  · skip
    exact absurd t1 c_598
