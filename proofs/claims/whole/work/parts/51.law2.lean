set_option maxHeartbeats 4000000 in
set_option maxRecDepth 100000 in
theorem law_chain {p : Program} {l : Launch} {e : Env} {s : State} {m : MethodId} {below : List Frame} {meth : Method} {c : Code} (hl9 : l.stackTraces = false) {dC : Nat → ClassId} {dI : Nat → Nat → Nat} {b L : Nat} {xs : Nat → Int32} (hL : L ≤ 2561) (C0 : lw_At p s m meth c b L xs) (hE : EV (fun q : Nat => s.heap.size ≤ q) s s.heap) {c0 cL : ClassId} {a am : Nat → Nat} {o : Nat} (hK : va_K (dC, dI) vwCl [(c0, .int), (cL, .long)] s) {i : Nat} {u : xS} {v : mS} {g : Nat → Int64} (hi : i + 5 ≤ L) (hR : Rel i u v) (ih : ∀ (i2 : Nat) (u : xS) (v : mS) (g : Nat → Int64), i2 = i + 5 → i2 ≤ L → Rel i2 u v → ∀ (H : Heap) (locs : List Loc) (ls : Array Slot), va_P (dC, dI) vwCl (WO c0 cL a o u g) H → va_P (dC, dI) vwCl (wM c0 am v) H → va_D (fun q : Nat => s.heap.size ≤ q) (wM c0 am v ++ WO c0 cL a o u g) → va_S (fun q : Nat => s.heap.size ≤ q) s.heap H locs → lv_has ls 8 [(0, .ref b), (1, .ref (a 0)), (2, .ref (am 0)), (3, .ref o), (4, .int (nI i2))] → W p l e room_1 s m #[Value.ref b] below meth c H locs (100 + i2) (1000 + 3 * i2) (lw_Z below #[Value.ref b] s) (F0 m 33 ls [])) : ∀ (H : Heap) (locs : List Loc) (ls : Array Slot), va_P (dC, dI) vwCl (WO c0 cL a o u g) H → va_P (dC, dI) vwCl (wM c0 am v) H → va_D (fun q : Nat => s.heap.size ≤ q) (wM c0 am v ++ WO c0 cL a o u g) → va_S (fun q : Nat => s.heap.size ≤ q) s.heap H locs → lv_has ls 8 [(0, .ref b), (1, .ref (a 0)), (2, .ref (am 0)), (3, .ref o), (4, .int (nI i))] → W p l e room_1 s m #[Value.ref b] below meth c H locs (100 + i) (1000 + 3 * i) (lw_Z below #[Value.ref b] s) (F0 m 623 ls []) := by
  obtain ⟨hx, hb, hr, hml, hown, -, hX, hbl, hlocks, hgv⟩ := C0
  have hown : s.vm.findClass RL = some m.cls := hown
  have hA : ∀ q : Nat, s.heap.size ≤ q → (fun q : Nat => s.heap.size ≤ q) q := fun _ h => h
  have hbA : ¬ (fun q : Nat => s.heap.size ≤ q) b := Nat.not_le.mpr hbl
  have hts := hE.ts (args := #[Value.ref b])
  obtain ⟨th, n2, wk2, sd2, bt2, lt2, lo2, ct2, rk2, ad2, sp2, gd2, rf2, sm2, js2, sn2, wl2, vl2, bg2, cm2⟩ := v
  obtain ⟨hn2, hct2⟩ := hR.mok
  have hok := hR.ok
  intro H locs ls hPx hPm hD hS hl
  refine lv_aload_n hx hb dL_law_623 rfl (lv_at hl 1 rfl) ?_
  refine lv_aload_n hx hb dL_law_624 rfl (lv_at hl 0 rfl) ?_
  refine lv_iload hx hb dL_law_625 (lv_at hl 4 rfl) ?_
  refine lv_iconst (v := 1) hx hb dL_law_627 (by decide) ?_
  refine lv_iadd hx hb dL_law_628 ?_
  rw [nad1 i]
  refine va_sld hx hb hX hbl hbA hS (vp_in_nI (n := i + 1) (by omega) (by omega)) dL_law_629 ?_
  rw [nI_clamp (n := i + 1) (by omega)]
  refine lv_aload_n hx hb dL_law_630 rfl (lv_at hl 0 rfl) ?_
  refine lv_iload hx hb dL_law_631 (lv_at hl 4 rfl) ?_
  refine lv_iconst (v := 2) hx hb dL_law_633 (by decide) ?_
  refine lv_iadd hx hb dL_law_634 ?_
  rw [nad2 i]
  refine va_sld hx hb hX hbl hbA hS (vp_in_nI (n := i + 2) (by omega) (by omega)) dL_law_635 ?_
  rw [nI_clamp (n := i + 2) (by omega)]
  refine lv_aload_n hx hb dL_law_636 rfl (lv_at hl 3 rfl) ?_
  have hFx := fre (dr hD) hS hA
  refine va_calli (vx_runSW (As := [.ref (a 0), .int (xs (i + 1)), .int (xs (i + 2)), .ref o]) (rest := []) ⟨hx, hb, hml, hown, hts⟩ (c_L_chain l hl9 dC dI c0 cL o g a _ u hok (xs (i + 1)) (xs (i + 2))) (vx_cwSW 4 hts gL_law_L_chain rfl rfl rfl (by decide +kernel) ⟨(Nat.le_of_ble_eq_true rfl), (Nat.le_of_ble_eq_true rfl)⟩) ⟨PW_blind, PW_give hPx hK (dr hD) hE hS hFx⟩ rfl rfl hl.1 rfl (lv_room (Nat.le_of_ble_eq_true rfl)) dL_law_637 ⟨by show 100 + i + 2 ≤ 643794; omega, by show 1000 + 3 * i + 12 ≤ 7164688; omega⟩) hS (fun q _ h => hFx q h) hFx (fun r v9 t H1 locs ht hvm hw hB hz1 hk1 hS => ?_)
  obtain ⟨u9, g9⟩ := v9
  obtain ⟨rfl, hw2, hw3⟩ := hw
  have hw2 : u9 = (f_chain u (xs (i + 1)) (xs (i + 2))).2.2 := hw2
  have hw3 : g9 = if (f_chain u (xs (i + 1)) (xs (i + 2))).1 = 0 then vp_updL g 0 (f_chain u (xs (i + 1)) (xs (i + 2))).2.1 else g := hw3
  subst hw2 hw3
  obtain ⟨hP1, -, hD1⟩ := hB
  rw [ht] at hP1
  obtain ⟨hPm, hD⟩ := jnL (Q := wM c0 am (th, n2, wk2, sd2, bt2, lt2, lo2, ct2, rk2, ad2, sp2, gd2, rf2, sm2, js2, sn2, wl2, vl2, bg2, cm2)) (P := WO c0 cL a o u g) hPm hD hk1 hD1 hFx
  have hPx : va_P (dC, dI) vwCl (WO c0 cL a o (f_chain u (xs (i + 1)) (xs (i + 2))).2.2 (if (f_chain u (xs (i + 1)) (xs (i + 2))).1 = 0 then vp_updL g 0 (f_chain u (xs (i + 1)) (xs (i + 2))).2.1 else g)) H1 := hP1
  generalize H1 = H at hPx hPm hS ⊢
  refine lv_istore (lv' := [(5, .int ((f_chain u (xs (i + 1)) (xs (i + 2))).1)), (0, .ref b), (1, .ref (a 0)), (2, .ref (am 0)), (3, .ref o), (4, .int (nI i))]) hx hb dL_law_640 hl (by decide) rfl (fun ls hl => ?_)
  refine lv_aload_n hx hb dL_law_642 rfl (lv_at hl 3 rfl) ?_
  refine lv_aload_n hx hb dL_law_643 rfl (lv_at hl 1 rfl) ?_
  refine lv_iload hx hb dL_law_644 (lv_at hl 5 rfl) ?_
  refine lv_iconst (v := 1) hx hb dL_law_646 (by decide) ?_
  refine lv_iadd hx hb dL_law_647 ?_
  rw [nad1 i]
  refine va_sld hx hb hX hbl hbA hS (vp_in_nI (n := i + 1) (by omega) (by omega)) dL_law_648 ?_
  rw [nI_clamp (n := i + 1) (by omega)]
  refine lv_aload_n hx hb dL_law_649 rfl (lv_at hl 1 rfl) ?_
  refine lv_iload hx hb dL_law_650 (lv_at hl 5 rfl) ?_
  refine lv_iconst (v := 2) hx hb dL_law_652 (by decide) ?_
  refine lv_iadd hx hb dL_law_653 ?_
  rw [nad2 i]
  refine va_sld hx hb hX hbl hbA hS (vp_in_nI (n := i + 2) (by omega) (by omega)) dL_law_654 ?_
  rw [nI_clamp (n := i + 2) (by omega)]
  have hFm := fre (dl hD) hS hA
  refine va_calll (va_runV (As := [.int (xs (i + 1)), .int (xs (i + 2))]) (rest := []) ⟨hx, hb, hml, hown, hts⟩ (c_M0_chain l dC dI c0 am _ th n2 wk2 sd2 bt2 lt2 lo2 ct2 rk2 ad2 sp2 gd2 rf2 sm2 js2 sn2 wl2 vl2 bg2 cm2 (xs (i + 1)) (xs (i + 2)) hn2) (cwV 2 hts gL_law_M0_chain rfl rfl rfl (by decide +kernel) ⟨(Nat.le_of_ble_eq_true rfl), (Nat.le_of_ble_eq_true rfl)⟩) ⟨PM_blind, va_recv hK hPm (ci := 4) (q0 := 0) rfl rfl, PM_give hPm (hK.sub [0] rfl) (dl hD) hE hS hFm⟩ rfl rfl hl.1 rfl (lv_room (Nat.le_of_ble_eq_true rfl)) dL_law_655 ⟨by show 100 + i + 2 + 0 ≤ 643794; omega, by show 1000 + 3 * i + 12 + 0 ≤ 7164688; omega⟩) hS (fun q _ h => hFm q h) hFm (fun r v2 t H1 locs ht hvm hw hB hz1 hk1 hS => ?_)
  obtain ⟨hP1, -, hD1⟩ := hB
  rw [ht] at hP1
  obtain ⟨hPx, hD⟩ := jnL (Q := WO c0 cL a o (f_chain u (xs (i + 1)) (xs (i + 2))).2.2 (if (f_chain u (xs (i + 1)) (xs (i + 2))).1 = 0 then vp_updL g 0 (f_chain u (xs (i + 1)) (xs (i + 2))).2.1 else g)) (P := wM c0 am (th, n2, wk2, sd2, bt2, lt2, lo2, ct2, rk2, ad2, sp2, gd2, rf2, sm2, js2, sn2, wl2, vl2, bg2, cm2)) hPx (dsw hD) hk1 hD1 hFm
  have hD := dsw hD
  have hPm : va_P (dC, dI) vwCl (wM c0 am v2) H1 := hP1
  generalize H1 = H at hPx hPm hS ⊢
  have h3 := rel_chain hR (by omega) (xs (i + 1)) (xs (i + 2))
  rw [hw] at h3
  obtain ⟨t1, t2, t3⟩ := h3
  obtain ⟨th_, n2_, wk2_, sd2_, bt2_, lt2_, lo2_, ct2_, rk2_, ad2_, sp2_, gd2_, rf2_, sm2_, js2_, sn2_, wl2_, vl2_, bg2_, cm2_⟩ := v2
  refine lv_lstore (lv' := [(6, .long r), (5, .int ((f_chain u (xs (i + 1)) (xs (i + 2))).1)), (0, .ref b), (1, .ref (a 0)), (2, .ref (am 0)), (3, .ref o), (4, .int (nI i))]) hx hb dL_law_658 hl (by decide) rfl (fun ls hl => ?_)
  refine lv_aload_n hx hb dL_law_660 rfl (lv_at hl 4 rfl) ?_
  have hFm := fre (dl hD) hS hA
  refine va_calli (va_runV (As := []) (rest := []) ⟨hx, hb, hml, hown, hts⟩ (c_M0_thrown l dC dI c0 am _ th_ n2_ wk2_ sd2_ bt2_ lt2_ lo2_ ct2_ rk2_ ad2_ sp2_ gd2_ rf2_ sm2_ js2_ sn2_ wl2_ vl2_ bg2_ cm2_) (cwV 0 hts gL_law_M0_thrown rfl rfl rfl (by decide +kernel) ⟨(Nat.le_of_ble_eq_true rfl), (Nat.le_of_ble_eq_true rfl)⟩) ⟨PM_blind, va_recv hK hPm (ci := 4) (q0 := 0) rfl rfl, PM_give hPm (hK.sub [0] rfl) (dl hD) hE hS hFm⟩ rfl rfl hl.1 rfl (lv_room (Nat.le_of_ble_eq_true rfl)) dL_law_661 ⟨by show 100 + i + 2 + 0 + 0 ≤ 643794; omega, by show 1000 + 3 * i + 12 + 0 + 0 ≤ 7164688; omega⟩) hS (fun q _ h => hFm q h) hFm (fun r9 v3 t H1 locs ht hvm hw hB hz1 hk1 hS => ?_)
  obtain ⟨rfl, e9⟩ := hw
  have e9 := e9.symm
  subst e9
  obtain ⟨hP1, -, hD1⟩ := hB
  rw [ht] at hP1
  obtain ⟨hPx, hD⟩ := jnL (Q := WO c0 cL a o (f_chain u (xs (i + 1)) (xs (i + 2))).2.2 (if (f_chain u (xs (i + 1)) (xs (i + 2))).1 = 0 then vp_updL g 0 (f_chain u (xs (i + 1)) (xs (i + 2))).2.1 else g)) (P := wM c0 am (th_, n2_, wk2_, sd2_, bt2_, lt2_, lo2_, ct2_, rk2_, ad2_, sp2_, gd2_, rf2_, sm2_, js2_, sn2_, wl2_, vl2_, bg2_, cm2_)) hPx (dsw hD) hk1 hD1 hFm
  have hD := dsw hD
  have hPm : va_P (dC, dI) vwCl (wM c0 am (th_, n2_, wk2_, sd2_, bt2_, lt2_, lo2_, ct2_, rk2_, ad2_, sp2_, gd2_, rf2_, sm2_, js2_, sn2_, wl2_, vl2_, bg2_, cm2_)) H1 := hP1
  generalize H1 = H at hPx hPm hS ⊢
  refine lv_iload hx hb dL_law_664 (lv_at hl 1 rfl) ?_
  refine lv_icmp_eq (tgt := 671) hx hb dL_law_666 (by decide) (fun c_666 => ?_) (fun c_666 => ?_)
  · skip
    refine lv_iload hx hb dL_law_671 (lv_at hl 1 rfl) ?_
    refine lv_if_ne (tgt := 687) hx hb dL_law_673 (by decide) (fun c_673 => ?_) (fun c_673 => ?_)
    · skip
      refine lv_goto (tgt := 914) hx hb dL_law_687 (by decide) ?_
      refine lv_iinc (v := nI (i + 5)) (lv' := [(4, .int (nI (i + 5))), (6, .long r), (5, .int ((f_chain u (xs (i + 1)) (xs (i + 2))).1)), (0, .ref b), (1, .ref (a 0)), (2, .ref (am 0)), (3, .ref o)]) hx hb dL_law_914 hl (k := 6) rfl (by rw [← nad5]; rfl) (by decide) rfl (fun ls hl => ?_)
      refine lv_goto (tgt := 33) hx hb dL_law_917 (by decide) ?_
      refine W.widen (k := 100 + (i + 5)) (n := 1000 + 3 * (i + 5)) (by omega) (by omega) ?_
      exact ih (i + 5) _ _ _ rfl (by omega) (t3.le (by omega)) _ _ _ hPx hPm hD hS (lv_sub hl [3, 4, 5, 6, 0] rfl)
    · skip
      refine lv_aload_n hx hb dL_law_676 rfl (lv_at hl 5 rfl) ?_
      refine lv_iconst (v := 0) hx hb dL_law_677 (by decide) ?_
      refine va_lald hx hb hK hPx 0 1 rfl rfl in01 dL_law_678 ?_
      rw [sb_cl0]
      refine lv_lload hx hb dL_law_679 (lv_at hl 0 rfl) ?_
      refine W.lcmp hx hb dL_law_681 ?_
      refine lv_if_eq (tgt := 687) hx hb dL_law_682 (by decide) (fun c_682 => ?_) (fun c_682 => ?_)
      · skip
        refine lv_goto (tgt := 914) hx hb dL_law_687 (by decide) ?_
        refine lv_iinc (v := nI (i + 5)) (lv' := [(4, .int (nI (i + 5))), (6, .long r), (5, .int ((f_chain u (xs (i + 1)) (xs (i + 2))).1)), (0, .ref b), (1, .ref (a 0)), (2, .ref (am 0)), (3, .ref o)]) hx hb dL_law_914 hl (k := 6) rfl (by rw [← nad5]; rfl) (by decide) rfl (fun ls hl => ?_)
        refine lv_goto (tgt := 33) hx hb dL_law_917 (by decide) ?_
        refine W.widen (k := 100 + (i + 5)) (n := 1000 + 3 * (i + 5)) (by omega) (by omega) ?_
        exact ih (i + 5) _ _ _ rfl (by omega) (t3.le (by omega)) _ _ _ hPx hPm hD hS (lv_sub hl [3, 4, 5, 6, 0] rfl)
      · skip
        exact absurd ((lg_cmp_eq _ _).mpr (show (if (f_chain u (xs (i + 1)) (xs (i + 2))).1 = 0 then vp_updL g 0 (f_chain u (xs (i + 1)) (xs (i + 2))).2.1 else g) 0 = r from by rw [if_pos c_673, pk_uLs]; exact t2 c_673)) c_682
  · skip
    exact absurd t1 c_666
set_option maxHeartbeats 4000000 in
set_option maxRecDepth 100000 in
theorem law_came {p : Program} {l : Launch} {e : Env} {s : State} {m : MethodId} {below : List Frame} {meth : Method} {c : Code} (hl9 : l.stackTraces = false) {dC : Nat → ClassId} {dI : Nat → Nat → Nat} {b L : Nat} {xs : Nat → Int32} (hL : L ≤ 2561) (C0 : lw_At p s m meth c b L xs) (hE : EV (fun q : Nat => s.heap.size ≤ q) s s.heap) {c0 cL : ClassId} {a am : Nat → Nat} {o : Nat} (hK : va_K (dC, dI) vwCl [(c0, .int), (cL, .long)] s) {i : Nat} {u : xS} {v : mS} {g : Nat → Int64} (hi : i + 5 ≤ L) (hR : Rel i u v) (ih : ∀ (i2 : Nat) (u : xS) (v : mS) (g : Nat → Int64), i2 = i + 5 → i2 ≤ L → Rel i2 u v → ∀ (H : Heap) (locs : List Loc) (ls : Array Slot), va_P (dC, dI) vwCl (WO c0 cL a o u g) H → va_P (dC, dI) vwCl (wM c0 am v) H → va_D (fun q : Nat => s.heap.size ≤ q) (wM c0 am v ++ WO c0 cL a o u g) → va_S (fun q : Nat => s.heap.size ≤ q) s.heap H locs → lv_has ls 8 [(0, .ref b), (1, .ref (a 0)), (2, .ref (am 0)), (3, .ref o), (4, .int (nI i2))] → W p l e room_1 s m #[Value.ref b] below meth c H locs (100 + i2) (1000 + 3 * i2) (lw_Z below #[Value.ref b] s) (F0 m 33 ls [])) : ∀ (H : Heap) (locs : List Loc) (ls : Array Slot), va_P (dC, dI) vwCl (WO c0 cL a o u g) H → va_P (dC, dI) vwCl (wM c0 am v) H → va_D (fun q : Nat => s.heap.size ≤ q) (wM c0 am v ++ WO c0 cL a o u g) → va_S (fun q : Nat => s.heap.size ≤ q) s.heap H locs → lv_has ls 8 [(0, .ref b), (1, .ref (a 0)), (2, .ref (am 0)), (3, .ref o), (4, .int (nI i))] → W p l e room_1 s m #[Value.ref b] below meth c H locs (100 + i) (1000 + 3 * i) (lw_Z below #[Value.ref b] s) (F0 m 690 ls []) := by
  obtain ⟨hx, hb, hr, hml, hown, -, hX, hbl, hlocks, hgv⟩ := C0
  have hown : s.vm.findClass RL = some m.cls := hown
  have hA : ∀ q : Nat, s.heap.size ≤ q → (fun q : Nat => s.heap.size ≤ q) q := fun _ h => h
  have hbA : ¬ (fun q : Nat => s.heap.size ≤ q) b := Nat.not_le.mpr hbl
  have hts := hE.ts (args := #[Value.ref b])
  obtain ⟨th, n2, wk2, sd2, bt2, lt2, lo2, ct2, rk2, ad2, sp2, gd2, rf2, sm2, js2, sn2, wl2, vl2, bg2, cm2⟩ := v
  obtain ⟨hn2, hct2⟩ := hR.mok
  have hok := hR.ok
  intro H locs ls hPx hPm hD hS hl
  refine lv_aload_n hx hb dL_law_690 rfl (lv_at hl 1 rfl) ?_
  refine lv_aload_n hx hb dL_law_691 rfl (lv_at hl 0 rfl) ?_
  refine lv_iload hx hb dL_law_692 (lv_at hl 4 rfl) ?_
  refine lv_iconst (v := 1) hx hb dL_law_694 (by decide) ?_
  refine lv_iadd hx hb dL_law_695 ?_
  rw [nad1 i]
  refine va_sld hx hb hX hbl hbA hS (vp_in_nI (n := i + 1) (by omega) (by omega)) dL_law_696 ?_
  rw [nI_clamp (n := i + 1) (by omega)]
  refine lv_aload_n hx hb dL_law_697 rfl (lv_at hl 3 rfl) ?_
  have hFx := fre (dr hD) hS hA
  refine va_calli (vx_runSW (As := [.ref (a 0), .int (xs (i + 1)), .ref o]) (rest := []) ⟨hx, hb, hml, hown, hts⟩ (c_L_came l hl9 dC dI c0 cL o g a _ u hok (xs (i + 1))) (vx_cwSW 3 hts gL_law_L_came rfl rfl rfl (by decide +kernel) ⟨(Nat.le_of_ble_eq_true rfl), (Nat.le_of_ble_eq_true rfl)⟩) ⟨PW_blind, PW_give hPx hK (dr hD) hE hS hFx⟩ rfl rfl hl.1 rfl (lv_room (Nat.le_of_ble_eq_true rfl)) dL_law_698 ⟨by show 100 + i + 2 ≤ 643794; omega, by show 1000 + 3 * i + 12 ≤ 7164688; omega⟩) hS (fun q _ h => hFx q h) hFx (fun r v9 t H1 locs ht hvm hw hB hz1 hk1 hS => ?_)
  obtain ⟨u9, g9⟩ := v9
  obtain ⟨rfl, hw2, hw3⟩ := hw
  have hw2 : u9 = (f_came u (xs (i + 1))).2.2 := hw2
  have hw3 : g9 = if (f_came u (xs (i + 1))).1 = 0 then vp_updL g 0 (f_came u (xs (i + 1))).2.1 else g := hw3
  subst hw2 hw3
  obtain ⟨hP1, -, hD1⟩ := hB
  rw [ht] at hP1
  obtain ⟨hPm, hD⟩ := jnL (Q := wM c0 am (th, n2, wk2, sd2, bt2, lt2, lo2, ct2, rk2, ad2, sp2, gd2, rf2, sm2, js2, sn2, wl2, vl2, bg2, cm2)) (P := WO c0 cL a o u g) hPm hD hk1 hD1 hFx
  have hPx : va_P (dC, dI) vwCl (WO c0 cL a o (f_came u (xs (i + 1))).2.2 (if (f_came u (xs (i + 1))).1 = 0 then vp_updL g 0 (f_came u (xs (i + 1))).2.1 else g)) H1 := hP1
  generalize H1 = H at hPx hPm hS ⊢
  refine lv_istore (lv' := [(5, .int ((f_came u (xs (i + 1))).1)), (0, .ref b), (1, .ref (a 0)), (2, .ref (am 0)), (3, .ref o), (4, .int (nI i))]) hx hb dL_law_701 hl (by decide) rfl (fun ls hl => ?_)
  refine lv_aload_n hx hb dL_law_703 rfl (lv_at hl 3 rfl) ?_
  refine lv_aload_n hx hb dL_law_704 rfl (lv_at hl 1 rfl) ?_
  refine lv_iload hx hb dL_law_705 (lv_at hl 5 rfl) ?_
  refine lv_iconst (v := 1) hx hb dL_law_707 (by decide) ?_
  refine lv_iadd hx hb dL_law_708 ?_
  rw [nad1 i]
  refine va_sld hx hb hX hbl hbA hS (vp_in_nI (n := i + 1) (by omega) (by omega)) dL_law_709 ?_
  rw [nI_clamp (n := i + 1) (by omega)]
  have hFm := fre (dl hD) hS hA
  refine va_calli (va_runV (As := [.int (xs (i + 1))]) (rest := []) ⟨hx, hb, hml, hown, hts⟩ (c_M0_came l dC dI c0 am _ th n2 wk2 sd2 bt2 lt2 lo2 ct2 rk2 ad2 sp2 gd2 rf2 sm2 js2 sn2 wl2 vl2 bg2 cm2 (xs (i + 1)) hct2) (cwV 1 hts gL_law_M0_came rfl rfl rfl (by decide +kernel) ⟨(Nat.le_of_ble_eq_true rfl), (Nat.le_of_ble_eq_true rfl)⟩) ⟨PM_blind, va_recv hK hPm (ci := 4) (q0 := 0) rfl rfl, PM_give hPm (hK.sub [0] rfl) (dl hD) hE hS hFm⟩ rfl rfl hl.1 rfl (lv_room (Nat.le_of_ble_eq_true rfl)) dL_law_710 ⟨by show 100 + i + 2 + 0 ≤ 643794; omega, by show 1000 + 3 * i + 12 + 0 ≤ 7164688; omega⟩) hS (fun q _ h => hFm q h) hFm (fun r v2 t H1 locs ht hvm hw hB hz1 hk1 hS => ?_)
  obtain ⟨hP1, -, hD1⟩ := hB
  rw [ht] at hP1
  obtain ⟨hPx, hD⟩ := jnL (Q := WO c0 cL a o (f_came u (xs (i + 1))).2.2 (if (f_came u (xs (i + 1))).1 = 0 then vp_updL g 0 (f_came u (xs (i + 1))).2.1 else g)) (P := wM c0 am (th, n2, wk2, sd2, bt2, lt2, lo2, ct2, rk2, ad2, sp2, gd2, rf2, sm2, js2, sn2, wl2, vl2, bg2, cm2)) hPx (dsw hD) hk1 hD1 hFm
  have hD := dsw hD
  have hPm : va_P (dC, dI) vwCl (wM c0 am v2) H1 := hP1
  generalize H1 = H at hPx hPm hS ⊢
  have h3 := rel_came hR (by omega) (xs (i + 1))
  rw [hw] at h3
  obtain ⟨t1, t2, t3⟩ := h3
  obtain ⟨th_, n2_, wk2_, sd2_, bt2_, lt2_, lo2_, ct2_, rk2_, ad2_, sp2_, gd2_, rf2_, sm2_, js2_, sn2_, wl2_, vl2_, bg2_, cm2_⟩ := v2
  refine lv_istore (lv' := [(6, .int r), (5, .int ((f_came u (xs (i + 1))).1)), (0, .ref b), (1, .ref (a 0)), (2, .ref (am 0)), (3, .ref o), (4, .int (nI i))]) hx hb dL_law_713 hl (by decide) rfl (fun ls hl => ?_)
  refine lv_aload_n hx hb dL_law_715 rfl (lv_at hl 4 rfl) ?_
  have hFm := fre (dl hD) hS hA
  refine va_calli (va_runV (As := []) (rest := []) ⟨hx, hb, hml, hown, hts⟩ (c_M0_thrown l dC dI c0 am _ th_ n2_ wk2_ sd2_ bt2_ lt2_ lo2_ ct2_ rk2_ ad2_ sp2_ gd2_ rf2_ sm2_ js2_ sn2_ wl2_ vl2_ bg2_ cm2_) (cwV 0 hts gL_law_M0_thrown rfl rfl rfl (by decide +kernel) ⟨(Nat.le_of_ble_eq_true rfl), (Nat.le_of_ble_eq_true rfl)⟩) ⟨PM_blind, va_recv hK hPm (ci := 4) (q0 := 0) rfl rfl, PM_give hPm (hK.sub [0] rfl) (dl hD) hE hS hFm⟩ rfl rfl hl.1 rfl (lv_room (Nat.le_of_ble_eq_true rfl)) dL_law_716 ⟨by show 100 + i + 2 + 0 + 0 ≤ 643794; omega, by show 1000 + 3 * i + 12 + 0 + 0 ≤ 7164688; omega⟩) hS (fun q _ h => hFm q h) hFm (fun r9 v3 t H1 locs ht hvm hw hB hz1 hk1 hS => ?_)
  obtain ⟨rfl, e9⟩ := hw
  have e9 := e9.symm
  subst e9
  obtain ⟨hP1, -, hD1⟩ := hB
  rw [ht] at hP1
  obtain ⟨hPx, hD⟩ := jnL (Q := WO c0 cL a o (f_came u (xs (i + 1))).2.2 (if (f_came u (xs (i + 1))).1 = 0 then vp_updL g 0 (f_came u (xs (i + 1))).2.1 else g)) (P := wM c0 am (th_, n2_, wk2_, sd2_, bt2_, lt2_, lo2_, ct2_, rk2_, ad2_, sp2_, gd2_, rf2_, sm2_, js2_, sn2_, wl2_, vl2_, bg2_, cm2_)) hPx (dsw hD) hk1 hD1 hFm
  have hD := dsw hD
  have hPm : va_P (dC, dI) vwCl (wM c0 am (th_, n2_, wk2_, sd2_, bt2_, lt2_, lo2_, ct2_, rk2_, ad2_, sp2_, gd2_, rf2_, sm2_, js2_, sn2_, wl2_, vl2_, bg2_, cm2_)) H1 := hP1
  generalize H1 = H at hPx hPm hS ⊢
  refine lv_iload hx hb dL_law_719 (lv_at hl 1 rfl) ?_
  refine lv_icmp_eq (tgt := 726) hx hb dL_law_721 (by decide) (fun c_721 => ?_) (fun c_721 => ?_)
  · skip
    refine lv_iload hx hb dL_law_726 (lv_at hl 1 rfl) ?_
    refine lv_if_ne (tgt := 743) hx hb dL_law_728 (by decide) (fun c_728 => ?_) (fun c_728 => ?_)
    · skip
      refine lv_goto (tgt := 914) hx hb dL_law_743 (by decide) ?_
      refine lv_iinc (v := nI (i + 5)) (lv' := [(4, .int (nI (i + 5))), (6, .int r), (5, .int ((f_came u (xs (i + 1))).1)), (0, .ref b), (1, .ref (a 0)), (2, .ref (am 0)), (3, .ref o)]) hx hb dL_law_914 hl (k := 6) rfl (by rw [← nad5]; rfl) (by decide) rfl (fun ls hl => ?_)
      refine lv_goto (tgt := 33) hx hb dL_law_917 (by decide) ?_
      refine W.widen (k := 100 + (i + 5)) (n := 1000 + 3 * (i + 5)) (by omega) (by omega) ?_
      exact ih (i + 5) _ _ _ rfl (by omega) (t3.le (by omega)) _ _ _ hPx hPm hD hS (lv_sub hl [3, 4, 5, 6, 0] rfl)
    · skip
      refine lv_aload_n hx hb dL_law_731 rfl (lv_at hl 5 rfl) ?_
      refine lv_iconst (v := 0) hx hb dL_law_732 (by decide) ?_
      refine va_lald hx hb hK hPx 0 1 rfl rfl in01 dL_law_733 ?_
      rw [sb_cl0]
      refine lv_iload hx hb dL_law_734 (lv_at hl 0 rfl) ?_
      refine lv_i2l hx hb dL_law_736 (v := r.toInt64) rfl ?_
      refine W.lcmp hx hb dL_law_737 ?_
      refine lv_if_eq (tgt := 743) hx hb dL_law_738 (by decide) (fun c_738 => ?_) (fun c_738 => ?_)
      · skip
        refine lv_goto (tgt := 914) hx hb dL_law_743 (by decide) ?_
        refine lv_iinc (v := nI (i + 5)) (lv' := [(4, .int (nI (i + 5))), (6, .int r), (5, .int ((f_came u (xs (i + 1))).1)), (0, .ref b), (1, .ref (a 0)), (2, .ref (am 0)), (3, .ref o)]) hx hb dL_law_914 hl (k := 6) rfl (by rw [← nad5]; rfl) (by decide) rfl (fun ls hl => ?_)
        refine lv_goto (tgt := 33) hx hb dL_law_917 (by decide) ?_
        refine W.widen (k := 100 + (i + 5)) (n := 1000 + 3 * (i + 5)) (by omega) (by omega) ?_
        exact ih (i + 5) _ _ _ rfl (by omega) (t3.le (by omega)) _ _ _ hPx hPm hD hS (lv_sub hl [3, 4, 5, 6, 0] rfl)
      · skip
        exact absurd ((lg_cmp_eq _ _).mpr (show (if (f_came u (xs (i + 1))).1 = 0 then vp_updL g 0 (f_came u (xs (i + 1))).2.1 else g) 0 = r.toInt64 from by rw [if_pos c_728, pk_uLs]; exact t2 c_728)) c_738
  · skip
    exact absurd t1 c_721
set_option maxHeartbeats 4000000 in
set_option maxRecDepth 100000 in
theorem law_begun {p : Program} {l : Launch} {e : Env} {s : State} {m : MethodId} {below : List Frame} {meth : Method} {c : Code} (hl9 : l.stackTraces = false) {dC : Nat → ClassId} {dI : Nat → Nat → Nat} {b L : Nat} {xs : Nat → Int32} (hL : L ≤ 2561) (C0 : lw_At p s m meth c b L xs) (hE : EV (fun q : Nat => s.heap.size ≤ q) s s.heap) {c0 cL : ClassId} {a am : Nat → Nat} {o : Nat} (hK : va_K (dC, dI) vwCl [(c0, .int), (cL, .long)] s) {i : Nat} {u : xS} {v : mS} {g : Nat → Int64} (hi : i + 5 ≤ L) (hR : Rel i u v) (ih : ∀ (i2 : Nat) (u : xS) (v : mS) (g : Nat → Int64), i2 = i + 5 → i2 ≤ L → Rel i2 u v → ∀ (H : Heap) (locs : List Loc) (ls : Array Slot), va_P (dC, dI) vwCl (WO c0 cL a o u g) H → va_P (dC, dI) vwCl (wM c0 am v) H → va_D (fun q : Nat => s.heap.size ≤ q) (wM c0 am v ++ WO c0 cL a o u g) → va_S (fun q : Nat => s.heap.size ≤ q) s.heap H locs → lv_has ls 8 [(0, .ref b), (1, .ref (a 0)), (2, .ref (am 0)), (3, .ref o), (4, .int (nI i2))] → W p l e room_1 s m #[Value.ref b] below meth c H locs (100 + i2) (1000 + 3 * i2) (lw_Z below #[Value.ref b] s) (F0 m 33 ls [])) : ∀ (H : Heap) (locs : List Loc) (ls : Array Slot), va_P (dC, dI) vwCl (WO c0 cL a o u g) H → va_P (dC, dI) vwCl (wM c0 am v) H → va_D (fun q : Nat => s.heap.size ≤ q) (wM c0 am v ++ WO c0 cL a o u g) → va_S (fun q : Nat => s.heap.size ≤ q) s.heap H locs → lv_has ls 8 [(0, .ref b), (1, .ref (a 0)), (2, .ref (am 0)), (3, .ref o), (4, .int (nI i))] → W p l e room_1 s m #[Value.ref b] below meth c H locs (100 + i) (1000 + 3 * i) (lw_Z below #[Value.ref b] s) (F0 m 746 ls []) := by
  obtain ⟨hx, hb, hr, hml, hown, -, hX, hbl, hlocks, hgv⟩ := C0
  have hown : s.vm.findClass RL = some m.cls := hown
  have hA : ∀ q : Nat, s.heap.size ≤ q → (fun q : Nat => s.heap.size ≤ q) q := fun _ h => h
  have hbA : ¬ (fun q : Nat => s.heap.size ≤ q) b := Nat.not_le.mpr hbl
  have hts := hE.ts (args := #[Value.ref b])
  obtain ⟨th, n2, wk2, sd2, bt2, lt2, lo2, ct2, rk2, ad2, sp2, gd2, rf2, sm2, js2, sn2, wl2, vl2, bg2, cm2⟩ := v
  obtain ⟨hn2, hct2⟩ := hR.mok
  have hok := hR.ok
  intro H locs ls hPx hPm hD hS hl
  refine lv_aload_n hx hb dL_law_746 rfl (lv_at hl 1 rfl) ?_
  refine lv_aload_n hx hb dL_law_747 rfl (lv_at hl 0 rfl) ?_
  refine lv_iload hx hb dL_law_748 (lv_at hl 4 rfl) ?_
  refine lv_iconst (v := 1) hx hb dL_law_750 (by decide) ?_
  refine lv_iadd hx hb dL_law_751 ?_
  rw [nad1 i]
  refine va_sld hx hb hX hbl hbA hS (vp_in_nI (n := i + 1) (by omega) (by omega)) dL_law_752 ?_
  rw [nI_clamp (n := i + 1) (by omega)]
  refine lv_aload_n hx hb dL_law_753 rfl (lv_at hl 3 rfl) ?_
  have hFx := fre (dr hD) hS hA
  refine va_calli (vx_runSW (As := [.ref (a 0), .int (xs (i + 1)), .ref o]) (rest := []) ⟨hx, hb, hml, hown, hts⟩ (c_L_begun l hl9 dC dI c0 cL o g a _ u hok (xs (i + 1))) (vx_cwSW 3 hts gL_law_L_begun rfl rfl rfl (by decide +kernel) ⟨(Nat.le_of_ble_eq_true rfl), (Nat.le_of_ble_eq_true rfl)⟩) ⟨PW_blind, PW_give hPx hK (dr hD) hE hS hFx⟩ rfl rfl hl.1 rfl (lv_room (Nat.le_of_ble_eq_true rfl)) dL_law_754 ⟨by show 100 + i + 2 ≤ 643794; omega, by show 1000 + 3 * i + 12 ≤ 7164688; omega⟩) hS (fun q _ h => hFx q h) hFx (fun r v9 t H1 locs ht hvm hw hB hz1 hk1 hS => ?_)
  obtain ⟨u9, g9⟩ := v9
  obtain ⟨rfl, hw2, hw3⟩ := hw
  have hw2 : u9 = (f_begun u (xs (i + 1))).2.2 := hw2
  have hw3 : g9 = if (f_begun u (xs (i + 1))).1 = 0 then vp_updL g 0 (f_begun u (xs (i + 1))).2.1 else g := hw3
  subst hw2 hw3
  obtain ⟨hP1, -, hD1⟩ := hB
  rw [ht] at hP1
  obtain ⟨hPm, hD⟩ := jnL (Q := wM c0 am (th, n2, wk2, sd2, bt2, lt2, lo2, ct2, rk2, ad2, sp2, gd2, rf2, sm2, js2, sn2, wl2, vl2, bg2, cm2)) (P := WO c0 cL a o u g) hPm hD hk1 hD1 hFx
  have hPx : va_P (dC, dI) vwCl (WO c0 cL a o (f_begun u (xs (i + 1))).2.2 (if (f_begun u (xs (i + 1))).1 = 0 then vp_updL g 0 (f_begun u (xs (i + 1))).2.1 else g)) H1 := hP1
  generalize H1 = H at hPx hPm hS ⊢
  refine lv_istore (lv' := [(5, .int ((f_begun u (xs (i + 1))).1)), (0, .ref b), (1, .ref (a 0)), (2, .ref (am 0)), (3, .ref o), (4, .int (nI i))]) hx hb dL_law_757 hl (by decide) rfl (fun ls hl => ?_)
  refine lv_aload_n hx hb dL_law_759 rfl (lv_at hl 3 rfl) ?_
  refine lv_aload_n hx hb dL_law_760 rfl (lv_at hl 1 rfl) ?_
  refine lv_iload hx hb dL_law_761 (lv_at hl 5 rfl) ?_
  refine lv_iconst (v := 1) hx hb dL_law_763 (by decide) ?_
  refine lv_iadd hx hb dL_law_764 ?_
  rw [nad1 i]
  refine va_sld hx hb hX hbl hbA hS (vp_in_nI (n := i + 1) (by omega) (by omega)) dL_law_765 ?_
  rw [nI_clamp (n := i + 1) (by omega)]
  have hFm := fre (dl hD) hS hA
  refine va_calli (va_runV (As := [.int (xs (i + 1))]) (rest := []) ⟨hx, hb, hml, hown, hts⟩ (c_M0_begun l dC dI c0 am _ th n2 wk2 sd2 bt2 lt2 lo2 ct2 rk2 ad2 sp2 gd2 rf2 sm2 js2 sn2 wl2 vl2 bg2 cm2 (xs (i + 1)) hn2) (cwV 1 hts gL_law_M0_begun rfl rfl rfl (by decide +kernel) ⟨(Nat.le_of_ble_eq_true rfl), (Nat.le_of_ble_eq_true rfl)⟩) ⟨PM_blind, va_recv hK hPm (ci := 4) (q0 := 0) rfl rfl, PM_give hPm (hK.sub [0] rfl) (dl hD) hE hS hFm⟩ rfl rfl hl.1 rfl (lv_room (Nat.le_of_ble_eq_true rfl)) dL_law_766 ⟨by show 100 + i + 2 + 0 ≤ 643794; omega, by show 1000 + 3 * i + 12 + 0 ≤ 7164688; omega⟩) hS (fun q _ h => hFm q h) hFm (fun r v2 t H1 locs ht hvm hw hB hz1 hk1 hS => ?_)
  obtain ⟨hP1, -, hD1⟩ := hB
  rw [ht] at hP1
  obtain ⟨hPx, hD⟩ := jnL (Q := WO c0 cL a o (f_begun u (xs (i + 1))).2.2 (if (f_begun u (xs (i + 1))).1 = 0 then vp_updL g 0 (f_begun u (xs (i + 1))).2.1 else g)) (P := wM c0 am (th, n2, wk2, sd2, bt2, lt2, lo2, ct2, rk2, ad2, sp2, gd2, rf2, sm2, js2, sn2, wl2, vl2, bg2, cm2)) hPx (dsw hD) hk1 hD1 hFm
  have hD := dsw hD
  have hPm : va_P (dC, dI) vwCl (wM c0 am v2) H1 := hP1
  generalize H1 = H at hPx hPm hS ⊢
  have h3 := rel_begun hR (by omega) (xs (i + 1))
  rw [hw] at h3
  obtain ⟨t1, t2, t3⟩ := h3
  obtain ⟨th_, n2_, wk2_, sd2_, bt2_, lt2_, lo2_, ct2_, rk2_, ad2_, sp2_, gd2_, rf2_, sm2_, js2_, sn2_, wl2_, vl2_, bg2_, cm2_⟩ := v2
  refine lv_istore (lv' := [(6, .int r), (5, .int ((f_begun u (xs (i + 1))).1)), (0, .ref b), (1, .ref (a 0)), (2, .ref (am 0)), (3, .ref o), (4, .int (nI i))]) hx hb dL_law_769 hl (by decide) rfl (fun ls hl => ?_)
  refine lv_aload_n hx hb dL_law_771 rfl (lv_at hl 4 rfl) ?_
  have hFm := fre (dl hD) hS hA
  refine va_calli (va_runV (As := []) (rest := []) ⟨hx, hb, hml, hown, hts⟩ (c_M0_thrown l dC dI c0 am _ th_ n2_ wk2_ sd2_ bt2_ lt2_ lo2_ ct2_ rk2_ ad2_ sp2_ gd2_ rf2_ sm2_ js2_ sn2_ wl2_ vl2_ bg2_ cm2_) (cwV 0 hts gL_law_M0_thrown rfl rfl rfl (by decide +kernel) ⟨(Nat.le_of_ble_eq_true rfl), (Nat.le_of_ble_eq_true rfl)⟩) ⟨PM_blind, va_recv hK hPm (ci := 4) (q0 := 0) rfl rfl, PM_give hPm (hK.sub [0] rfl) (dl hD) hE hS hFm⟩ rfl rfl hl.1 rfl (lv_room (Nat.le_of_ble_eq_true rfl)) dL_law_772 ⟨by show 100 + i + 2 + 0 + 0 ≤ 643794; omega, by show 1000 + 3 * i + 12 + 0 + 0 ≤ 7164688; omega⟩) hS (fun q _ h => hFm q h) hFm (fun r9 v3 t H1 locs ht hvm hw hB hz1 hk1 hS => ?_)
  obtain ⟨rfl, e9⟩ := hw
  have e9 := e9.symm
  subst e9
  obtain ⟨hP1, -, hD1⟩ := hB
  rw [ht] at hP1
  obtain ⟨hPx, hD⟩ := jnL (Q := WO c0 cL a o (f_begun u (xs (i + 1))).2.2 (if (f_begun u (xs (i + 1))).1 = 0 then vp_updL g 0 (f_begun u (xs (i + 1))).2.1 else g)) (P := wM c0 am (th_, n2_, wk2_, sd2_, bt2_, lt2_, lo2_, ct2_, rk2_, ad2_, sp2_, gd2_, rf2_, sm2_, js2_, sn2_, wl2_, vl2_, bg2_, cm2_)) hPx (dsw hD) hk1 hD1 hFm
  have hD := dsw hD
  have hPm : va_P (dC, dI) vwCl (wM c0 am (th_, n2_, wk2_, sd2_, bt2_, lt2_, lo2_, ct2_, rk2_, ad2_, sp2_, gd2_, rf2_, sm2_, js2_, sn2_, wl2_, vl2_, bg2_, cm2_)) H1 := hP1
  generalize H1 = H at hPx hPm hS ⊢
  refine lv_iload hx hb dL_law_775 (lv_at hl 1 rfl) ?_
  refine lv_icmp_eq (tgt := 782) hx hb dL_law_777 (by decide) (fun c_777 => ?_) (fun c_777 => ?_)
  · skip
    refine lv_iload hx hb dL_law_782 (lv_at hl 1 rfl) ?_
    refine lv_if_ne (tgt := 799) hx hb dL_law_784 (by decide) (fun c_784 => ?_) (fun c_784 => ?_)
    · skip
      refine lv_goto (tgt := 914) hx hb dL_law_799 (by decide) ?_
      refine lv_iinc (v := nI (i + 5)) (lv' := [(4, .int (nI (i + 5))), (6, .int r), (5, .int ((f_begun u (xs (i + 1))).1)), (0, .ref b), (1, .ref (a 0)), (2, .ref (am 0)), (3, .ref o)]) hx hb dL_law_914 hl (k := 6) rfl (by rw [← nad5]; rfl) (by decide) rfl (fun ls hl => ?_)
      refine lv_goto (tgt := 33) hx hb dL_law_917 (by decide) ?_
      refine W.widen (k := 100 + (i + 5)) (n := 1000 + 3 * (i + 5)) (by omega) (by omega) ?_
      exact ih (i + 5) _ _ _ rfl (by omega) (t3.le (by omega)) _ _ _ hPx hPm hD hS (lv_sub hl [3, 4, 5, 6, 0] rfl)
    · skip
      refine lv_aload_n hx hb dL_law_787 rfl (lv_at hl 5 rfl) ?_
      refine lv_iconst (v := 0) hx hb dL_law_788 (by decide) ?_
      refine va_lald hx hb hK hPx 0 1 rfl rfl in01 dL_law_789 ?_
      rw [sb_cl0]
      refine lv_iload hx hb dL_law_790 (lv_at hl 0 rfl) ?_
      refine lv_i2l hx hb dL_law_792 (v := r.toInt64) rfl ?_
      refine W.lcmp hx hb dL_law_793 ?_
      refine lv_if_eq (tgt := 799) hx hb dL_law_794 (by decide) (fun c_794 => ?_) (fun c_794 => ?_)
      · skip
        refine lv_goto (tgt := 914) hx hb dL_law_799 (by decide) ?_
        refine lv_iinc (v := nI (i + 5)) (lv' := [(4, .int (nI (i + 5))), (6, .int r), (5, .int ((f_begun u (xs (i + 1))).1)), (0, .ref b), (1, .ref (a 0)), (2, .ref (am 0)), (3, .ref o)]) hx hb dL_law_914 hl (k := 6) rfl (by rw [← nad5]; rfl) (by decide) rfl (fun ls hl => ?_)
        refine lv_goto (tgt := 33) hx hb dL_law_917 (by decide) ?_
        refine W.widen (k := 100 + (i + 5)) (n := 1000 + 3 * (i + 5)) (by omega) (by omega) ?_
        exact ih (i + 5) _ _ _ rfl (by omega) (t3.le (by omega)) _ _ _ hPx hPm hD hS (lv_sub hl [3, 4, 5, 6, 0] rfl)
      · skip
        exact absurd ((lg_cmp_eq _ _).mpr (show (if (f_begun u (xs (i + 1))).1 = 0 then vp_updL g 0 (f_begun u (xs (i + 1))).2.1 else g) 0 = r.toInt64 from by rw [if_pos c_784, pk_uLs]; exact t2 c_784)) c_794
  · skip
    exact absurd t1 c_777
set_option maxHeartbeats 4000000 in
set_option maxRecDepth 100000 in
theorem law_steps {p : Program} {l : Launch} {e : Env} {s : State} {m : MethodId} {below : List Frame} {meth : Method} {c : Code} (hl9 : l.stackTraces = false) {dC : Nat → ClassId} {dI : Nat → Nat → Nat} {b L : Nat} {xs : Nat → Int32} (hL : L ≤ 2561) (C0 : lw_At p s m meth c b L xs) (hE : EV (fun q : Nat => s.heap.size ≤ q) s s.heap) {c0 cL : ClassId} {a am : Nat → Nat} {o : Nat} (hK : va_K (dC, dI) vwCl [(c0, .int), (cL, .long)] s) {i : Nat} {u : xS} {v : mS} {g : Nat → Int64} (hi : i + 5 ≤ L) (hR : Rel i u v) (ih : ∀ (i2 : Nat) (u : xS) (v : mS) (g : Nat → Int64), i2 = i + 5 → i2 ≤ L → Rel i2 u v → ∀ (H : Heap) (locs : List Loc) (ls : Array Slot), va_P (dC, dI) vwCl (WO c0 cL a o u g) H → va_P (dC, dI) vwCl (wM c0 am v) H → va_D (fun q : Nat => s.heap.size ≤ q) (wM c0 am v ++ WO c0 cL a o u g) → va_S (fun q : Nat => s.heap.size ≤ q) s.heap H locs → lv_has ls 8 [(0, .ref b), (1, .ref (a 0)), (2, .ref (am 0)), (3, .ref o), (4, .int (nI i2))] → W p l e room_1 s m #[Value.ref b] below meth c H locs (100 + i2) (1000 + 3 * i2) (lw_Z below #[Value.ref b] s) (F0 m 33 ls [])) : ∀ (H : Heap) (locs : List Loc) (ls : Array Slot), va_P (dC, dI) vwCl (WO c0 cL a o u g) H → va_P (dC, dI) vwCl (wM c0 am v) H → va_D (fun q : Nat => s.heap.size ≤ q) (wM c0 am v ++ WO c0 cL a o u g) → va_S (fun q : Nat => s.heap.size ≤ q) s.heap H locs → lv_has ls 8 [(0, .ref b), (1, .ref (a 0)), (2, .ref (am 0)), (3, .ref o), (4, .int (nI i))] → W p l e room_1 s m #[Value.ref b] below meth c H locs (100 + i) (1000 + 3 * i) (lw_Z below #[Value.ref b] s) (F0 m 802 ls []) := by
  obtain ⟨hx, hb, hr, hml, hown, -, hX, hbl, hlocks, hgv⟩ := C0
  have hown : s.vm.findClass RL = some m.cls := hown
  have hA : ∀ q : Nat, s.heap.size ≤ q → (fun q : Nat => s.heap.size ≤ q) q := fun _ h => h
  have hbA : ¬ (fun q : Nat => s.heap.size ≤ q) b := Nat.not_le.mpr hbl
  have hts := hE.ts (args := #[Value.ref b])
  obtain ⟨th, n2, wk2, sd2, bt2, lt2, lo2, ct2, rk2, ad2, sp2, gd2, rf2, sm2, js2, sn2, wl2, vl2, bg2, cm2⟩ := v
  obtain ⟨hn2, hct2⟩ := hR.mok
  have hok := hR.ok
  intro H locs ls hPx hPm hD hS hl
  refine lv_aload_n hx hb dL_law_802 rfl (lv_at hl 1 rfl) ?_
  refine lv_aload_n hx hb dL_law_803 rfl (lv_at hl 0 rfl) ?_
  refine lv_iload hx hb dL_law_804 (lv_at hl 4 rfl) ?_
  refine lv_iconst (v := 1) hx hb dL_law_806 (by decide) ?_
  refine lv_iadd hx hb dL_law_807 ?_
  rw [nad1 i]
  refine va_sld hx hb hX hbl hbA hS (vp_in_nI (n := i + 1) (by omega) (by omega)) dL_law_808 ?_
  rw [nI_clamp (n := i + 1) (by omega)]
  refine lv_aload_n hx hb dL_law_809 rfl (lv_at hl 3 rfl) ?_
  have hFx := fre (dr hD) hS hA
  refine va_calli (vx_runSW (As := [.ref (a 0), .int (xs (i + 1)), .ref o]) (rest := []) ⟨hx, hb, hml, hown, hts⟩ (c_L_steps l hl9 dC dI c0 cL o g a _ u hok (xs (i + 1))) (vx_cwSW 3 hts gL_law_L_steps rfl rfl rfl (by decide +kernel) ⟨(Nat.le_of_ble_eq_true rfl), (Nat.le_of_ble_eq_true rfl)⟩) ⟨PW_blind, PW_give hPx hK (dr hD) hE hS hFx⟩ rfl rfl hl.1 rfl (lv_room (Nat.le_of_ble_eq_true rfl)) dL_law_810 ⟨by show 100 + i + 2 ≤ 643794; omega, by show 1000 + 3 * i + 12 ≤ 7164688; omega⟩) hS (fun q _ h => hFx q h) hFx (fun r v9 t H1 locs ht hvm hw hB hz1 hk1 hS => ?_)
  obtain ⟨u9, g9⟩ := v9
  obtain ⟨rfl, hw2, hw3⟩ := hw
  have hw2 : u9 = (f_steps u (xs (i + 1))).2.2 := hw2
  have hw3 : g9 = if (f_steps u (xs (i + 1))).1 = 0 then vp_updL g 0 (f_steps u (xs (i + 1))).2.1 else g := hw3
  subst hw2 hw3
  obtain ⟨hP1, -, hD1⟩ := hB
  rw [ht] at hP1
  obtain ⟨hPm, hD⟩ := jnL (Q := wM c0 am (th, n2, wk2, sd2, bt2, lt2, lo2, ct2, rk2, ad2, sp2, gd2, rf2, sm2, js2, sn2, wl2, vl2, bg2, cm2)) (P := WO c0 cL a o u g) hPm hD hk1 hD1 hFx
  have hPx : va_P (dC, dI) vwCl (WO c0 cL a o (f_steps u (xs (i + 1))).2.2 (if (f_steps u (xs (i + 1))).1 = 0 then vp_updL g 0 (f_steps u (xs (i + 1))).2.1 else g)) H1 := hP1
  generalize H1 = H at hPx hPm hS ⊢
  refine lv_istore (lv' := [(5, .int ((f_steps u (xs (i + 1))).1)), (0, .ref b), (1, .ref (a 0)), (2, .ref (am 0)), (3, .ref o), (4, .int (nI i))]) hx hb dL_law_813 hl (by decide) rfl (fun ls hl => ?_)
  refine lv_aload_n hx hb dL_law_815 rfl (lv_at hl 3 rfl) ?_
  refine lv_aload_n hx hb dL_law_816 rfl (lv_at hl 1 rfl) ?_
  refine lv_iload hx hb dL_law_817 (lv_at hl 5 rfl) ?_
  refine lv_iconst (v := 1) hx hb dL_law_819 (by decide) ?_
  refine lv_iadd hx hb dL_law_820 ?_
  rw [nad1 i]
  refine va_sld hx hb hX hbl hbA hS (vp_in_nI (n := i + 1) (by omega) (by omega)) dL_law_821 ?_
  rw [nI_clamp (n := i + 1) (by omega)]
  have hFm := fre (dl hD) hS hA
  refine va_calli (va_runV (As := [.int (xs (i + 1))]) (rest := []) ⟨hx, hb, hml, hown, hts⟩ (c_M0_steps l dC dI c0 am _ th n2 wk2 sd2 bt2 lt2 lo2 ct2 rk2 ad2 sp2 gd2 rf2 sm2 js2 sn2 wl2 vl2 bg2 cm2 (xs (i + 1)) ) (cwV 1 hts gL_law_M0_steps rfl rfl rfl (by decide +kernel) ⟨(Nat.le_of_ble_eq_true rfl), (Nat.le_of_ble_eq_true rfl)⟩) ⟨PM_blind, va_recv hK hPm (ci := 4) (q0 := 0) rfl rfl, PM_give hPm (hK.sub [0] rfl) (dl hD) hE hS hFm⟩ rfl rfl hl.1 rfl (lv_room (Nat.le_of_ble_eq_true rfl)) dL_law_822 ⟨by show 100 + i + 2 + 0 ≤ 643794; omega, by show 1000 + 3 * i + 12 + 0 ≤ 7164688; omega⟩) hS (fun q _ h => hFm q h) hFm (fun r v2 t H1 locs ht hvm hw hB hz1 hk1 hS => ?_)
  obtain ⟨hP1, -, hD1⟩ := hB
  rw [ht] at hP1
  obtain ⟨hPx, hD⟩ := jnL (Q := WO c0 cL a o (f_steps u (xs (i + 1))).2.2 (if (f_steps u (xs (i + 1))).1 = 0 then vp_updL g 0 (f_steps u (xs (i + 1))).2.1 else g)) (P := wM c0 am (th, n2, wk2, sd2, bt2, lt2, lo2, ct2, rk2, ad2, sp2, gd2, rf2, sm2, js2, sn2, wl2, vl2, bg2, cm2)) hPx (dsw hD) hk1 hD1 hFm
  have hD := dsw hD
  have hPm : va_P (dC, dI) vwCl (wM c0 am v2) H1 := hP1
  generalize H1 = H at hPx hPm hS ⊢
  have h3 := rel_steps hR (by omega) (xs (i + 1))
  rw [hw] at h3
  obtain ⟨t1, t2, t3⟩ := h3
  obtain ⟨th_, n2_, wk2_, sd2_, bt2_, lt2_, lo2_, ct2_, rk2_, ad2_, sp2_, gd2_, rf2_, sm2_, js2_, sn2_, wl2_, vl2_, bg2_, cm2_⟩ := v2
  refine lv_istore (lv' := [(6, .int r), (5, .int ((f_steps u (xs (i + 1))).1)), (0, .ref b), (1, .ref (a 0)), (2, .ref (am 0)), (3, .ref o), (4, .int (nI i))]) hx hb dL_law_825 hl (by decide) rfl (fun ls hl => ?_)
  refine lv_aload_n hx hb dL_law_827 rfl (lv_at hl 4 rfl) ?_
  have hFm := fre (dl hD) hS hA
  refine va_calli (va_runV (As := []) (rest := []) ⟨hx, hb, hml, hown, hts⟩ (c_M0_thrown l dC dI c0 am _ th_ n2_ wk2_ sd2_ bt2_ lt2_ lo2_ ct2_ rk2_ ad2_ sp2_ gd2_ rf2_ sm2_ js2_ sn2_ wl2_ vl2_ bg2_ cm2_) (cwV 0 hts gL_law_M0_thrown rfl rfl rfl (by decide +kernel) ⟨(Nat.le_of_ble_eq_true rfl), (Nat.le_of_ble_eq_true rfl)⟩) ⟨PM_blind, va_recv hK hPm (ci := 4) (q0 := 0) rfl rfl, PM_give hPm (hK.sub [0] rfl) (dl hD) hE hS hFm⟩ rfl rfl hl.1 rfl (lv_room (Nat.le_of_ble_eq_true rfl)) dL_law_828 ⟨by show 100 + i + 2 + 0 + 0 ≤ 643794; omega, by show 1000 + 3 * i + 12 + 0 + 0 ≤ 7164688; omega⟩) hS (fun q _ h => hFm q h) hFm (fun r9 v3 t H1 locs ht hvm hw hB hz1 hk1 hS => ?_)
  obtain ⟨rfl, e9⟩ := hw
  have e9 := e9.symm
  subst e9
  obtain ⟨hP1, -, hD1⟩ := hB
  rw [ht] at hP1
  obtain ⟨hPx, hD⟩ := jnL (Q := WO c0 cL a o (f_steps u (xs (i + 1))).2.2 (if (f_steps u (xs (i + 1))).1 = 0 then vp_updL g 0 (f_steps u (xs (i + 1))).2.1 else g)) (P := wM c0 am (th_, n2_, wk2_, sd2_, bt2_, lt2_, lo2_, ct2_, rk2_, ad2_, sp2_, gd2_, rf2_, sm2_, js2_, sn2_, wl2_, vl2_, bg2_, cm2_)) hPx (dsw hD) hk1 hD1 hFm
  have hD := dsw hD
  have hPm : va_P (dC, dI) vwCl (wM c0 am (th_, n2_, wk2_, sd2_, bt2_, lt2_, lo2_, ct2_, rk2_, ad2_, sp2_, gd2_, rf2_, sm2_, js2_, sn2_, wl2_, vl2_, bg2_, cm2_)) H1 := hP1
  generalize H1 = H at hPx hPm hS ⊢
  refine lv_iload hx hb dL_law_831 (lv_at hl 1 rfl) ?_
  refine lv_icmp_eq (tgt := 838) hx hb dL_law_833 (by decide) (fun c_833 => ?_) (fun c_833 => ?_)
  · skip
    refine lv_iload hx hb dL_law_838 (lv_at hl 1 rfl) ?_
    refine lv_if_ne (tgt := 855) hx hb dL_law_840 (by decide) (fun c_840 => ?_) (fun c_840 => ?_)
    · skip
      refine lv_goto (tgt := 914) hx hb dL_law_855 (by decide) ?_
      refine lv_iinc (v := nI (i + 5)) (lv' := [(4, .int (nI (i + 5))), (6, .int r), (5, .int ((f_steps u (xs (i + 1))).1)), (0, .ref b), (1, .ref (a 0)), (2, .ref (am 0)), (3, .ref o)]) hx hb dL_law_914 hl (k := 6) rfl (by rw [← nad5]; rfl) (by decide) rfl (fun ls hl => ?_)
      refine lv_goto (tgt := 33) hx hb dL_law_917 (by decide) ?_
      refine W.widen (k := 100 + (i + 5)) (n := 1000 + 3 * (i + 5)) (by omega) (by omega) ?_
      exact ih (i + 5) _ _ _ rfl (by omega) (t3.le (by omega)) _ _ _ hPx hPm hD hS (lv_sub hl [3, 4, 5, 6, 0] rfl)
    · skip
      refine lv_aload_n hx hb dL_law_843 rfl (lv_at hl 5 rfl) ?_
      refine lv_iconst (v := 0) hx hb dL_law_844 (by decide) ?_
      refine va_lald hx hb hK hPx 0 1 rfl rfl in01 dL_law_845 ?_
      rw [sb_cl0]
      refine lv_iload hx hb dL_law_846 (lv_at hl 0 rfl) ?_
      refine lv_i2l hx hb dL_law_848 (v := r.toInt64) rfl ?_
      refine W.lcmp hx hb dL_law_849 ?_
      refine lv_if_eq (tgt := 855) hx hb dL_law_850 (by decide) (fun c_850 => ?_) (fun c_850 => ?_)
      · skip
        refine lv_goto (tgt := 914) hx hb dL_law_855 (by decide) ?_
        refine lv_iinc (v := nI (i + 5)) (lv' := [(4, .int (nI (i + 5))), (6, .int r), (5, .int ((f_steps u (xs (i + 1))).1)), (0, .ref b), (1, .ref (a 0)), (2, .ref (am 0)), (3, .ref o)]) hx hb dL_law_914 hl (k := 6) rfl (by rw [← nad5]; rfl) (by decide) rfl (fun ls hl => ?_)
        refine lv_goto (tgt := 33) hx hb dL_law_917 (by decide) ?_
        refine W.widen (k := 100 + (i + 5)) (n := 1000 + 3 * (i + 5)) (by omega) (by omega) ?_
        exact ih (i + 5) _ _ _ rfl (by omega) (t3.le (by omega)) _ _ _ hPx hPm hD hS (lv_sub hl [3, 4, 5, 6, 0] rfl)
      · skip
        exact absurd ((lg_cmp_eq _ _).mpr (show (if (f_steps u (xs (i + 1))).1 = 0 then vp_updL g 0 (f_steps u (xs (i + 1))).2.1 else g) 0 = r.toInt64 from by rw [if_pos c_840, pk_uLs]; exact t2 c_840)) c_850
  · skip
    exact absurd t1 c_833
