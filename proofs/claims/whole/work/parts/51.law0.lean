set_option maxHeartbeats 4000000 in
set_option maxRecDepth 100000 in
theorem law_share {p : Program} {l : Launch} {e : Env} {s : State} {m : MethodId} {below : List Frame} {meth : Method} {c : Code} (hl9 : l.stackTraces = false) {dC : Nat → ClassId} {dI : Nat → Nat → Nat} {b L : Nat} {xs : Nat → Int32} (hL : L ≤ 2561) (C0 : lw_At p s m meth c b L xs) (hE : EV (fun q : Nat => s.heap.size ≤ q) s s.heap) {c0 cL : ClassId} {a am : Nat → Nat} {o : Nat} (hK : va_K (dC, dI) vwCl [(c0, .int), (cL, .long)] s) {i : Nat} {u : xS} {v : mS} {g : Nat → Int64} (hi : i + 5 ≤ L) (hR : Rel i u v) (ih : ∀ (i2 : Nat) (u : xS) (v : mS) (g : Nat → Int64), i2 = i + 5 → i2 ≤ L → Rel i2 u v → ∀ (H : Heap) (locs : List Loc) (ls : Array Slot), va_P (dC, dI) vwCl (WO c0 cL a o u g) H → va_P (dC, dI) vwCl (wM c0 am v) H → va_D (fun q : Nat => s.heap.size ≤ q) (wM c0 am v ++ WO c0 cL a o u g) → va_S (fun q : Nat => s.heap.size ≤ q) s.heap H locs → lv_has ls 8 [(0, .ref b), (1, .ref (a 0)), (2, .ref (am 0)), (3, .ref o), (4, .int (nI i2))] → W p l e room_1 s m #[Value.ref b] below meth c H locs (100 + i2) (1000 + 3 * i2) (lw_Z below #[Value.ref b] s) (F0 m 33 ls [])) : ∀ (H : Heap) (locs : List Loc) (ls : Array Slot), va_P (dC, dI) vwCl (WO c0 cL a o u g) H → va_P (dC, dI) vwCl (wM c0 am v) H → va_D (fun q : Nat => s.heap.size ≤ q) (wM c0 am v ++ WO c0 cL a o u g) → va_S (fun q : Nat => s.heap.size ≤ q) s.heap H locs → lv_has ls 8 [(0, .ref b), (1, .ref (a 0)), (2, .ref (am 0)), (3, .ref o), (4, .int (nI i))] → W p l e room_1 s m #[Value.ref b] below meth c H locs (100 + i) (1000 + 3 * i) (lw_Z below #[Value.ref b] s) (F0 m 116 ls []) := by
  obtain ⟨hx, hb, hr, hml, hown, -, hX, hbl, hlocks, hgv⟩ := C0
  have hown : s.vm.findClass RL = some m.cls := hown
  have hA : ∀ q : Nat, s.heap.size ≤ q → (fun q : Nat => s.heap.size ≤ q) q := fun _ h => h
  have hbA : ¬ (fun q : Nat => s.heap.size ≤ q) b := Nat.not_le.mpr hbl
  have hts := hE.ts (args := #[Value.ref b])
  obtain ⟨th, n2, wk2, sd2, bt2, lt2, lo2, ct2, rk2, ad2, sp2, gd2, rf2, sm2, js2, sn2, wl2, vl2, bg2, cm2⟩ := v
  obtain ⟨hn2, hct2⟩ := hR.mok
  have hok := hR.ok
  intro H locs ls hPx hPm hD hS hl
  refine lv_aload_n hx hb dL_law_116 rfl (lv_at hl 1 rfl) ?_
  refine lv_aload_n hx hb dL_law_117 rfl (lv_at hl 0 rfl) ?_
  refine lv_iload hx hb dL_law_118 (lv_at hl 4 rfl) ?_
  refine lv_iconst (v := 1) hx hb dL_law_120 (by decide) ?_
  refine lv_iadd hx hb dL_law_121 ?_
  rw [nad1 i]
  refine va_sld hx hb hX hbl hbA hS (vp_in_nI (n := i + 1) (by omega) (by omega)) dL_law_122 ?_
  rw [nI_clamp (n := i + 1) (by omega)]
  refine lv_aload_n hx hb dL_law_123 rfl (lv_at hl 0 rfl) ?_
  refine lv_iload hx hb dL_law_124 (lv_at hl 4 rfl) ?_
  refine lv_iconst (v := 2) hx hb dL_law_126 (by decide) ?_
  refine lv_iadd hx hb dL_law_127 ?_
  rw [nad2 i]
  refine va_sld hx hb hX hbl hbA hS (vp_in_nI (n := i + 2) (by omega) (by omega)) dL_law_128 ?_
  rw [nI_clamp (n := i + 2) (by omega)]
  refine lv_aload_n hx hb dL_law_129 rfl (lv_at hl 0 rfl) ?_
  refine lv_iload hx hb dL_law_130 (lv_at hl 4 rfl) ?_
  refine lv_iconst (v := 3) hx hb dL_law_132 (by decide) ?_
  refine lv_iadd hx hb dL_law_133 ?_
  rw [nad3 i]
  refine va_sld hx hb hX hbl hbA hS (vp_in_nI (n := i + 3) (by omega) (by omega)) dL_law_134 ?_
  rw [nI_clamp (n := i + 3) (by omega)]
  refine lv_aload_n hx hb dL_law_135 rfl (lv_at hl 0 rfl) ?_
  refine lv_iload hx hb dL_law_136 (lv_at hl 4 rfl) ?_
  refine lv_iconst (v := 4) hx hb dL_law_138 (by decide) ?_
  refine lv_iadd hx hb dL_law_139 ?_
  rw [nad4 i]
  refine va_sld hx hb hX hbl hbA hS (vp_in_nI (n := i + 4) (by omega) (by omega)) dL_law_140 ?_
  rw [nI_clamp (n := i + 4) (by omega)]
  refine lv_aload_n hx hb dL_law_141 rfl (lv_at hl 3 rfl) ?_
  have hFx := fre (dr hD) hS hA
  refine va_calli (vx_runSW (As := [.ref (a 0), .int (xs (i + 1)), .int (xs (i + 2)), .int (xs (i + 3)), .int (xs (i + 4)), .ref o]) (rest := []) ⟨hx, hb, hml, hown, hts⟩ (c_L_share l hl9 dC dI c0 cL o g a _ u hok (xs (i + 1)) (xs (i + 2)) (xs (i + 3)) (xs (i + 4))) (vx_cwSW 6 hts gL_law_L_share rfl rfl rfl (by decide +kernel) ⟨(Nat.le_of_ble_eq_true rfl), (Nat.le_of_ble_eq_true rfl)⟩) ⟨PW_blind, PW_give hPx hK (dr hD) hE hS hFx⟩ rfl rfl hl.1 rfl (lv_room (Nat.le_of_ble_eq_true rfl)) dL_law_142 ⟨by show 100 + i + 2 ≤ 643794; omega, by show 1000 + 3 * i + 12 ≤ 7164688; omega⟩) hS (fun q _ h => hFx q h) hFx (fun r v9 t H1 locs ht hvm hw hB hz1 hk1 hS => ?_)
  obtain ⟨u9, g9⟩ := v9
  obtain ⟨rfl, hw2, hw3⟩ := hw
  have hw2 : u9 = (f_share u (xs (i + 1)) (xs (i + 2)) (xs (i + 3)) (xs (i + 4))).2.2 := hw2
  have hw3 : g9 = if (f_share u (xs (i + 1)) (xs (i + 2)) (xs (i + 3)) (xs (i + 4))).1 = 0 then vp_updL g 0 (f_share u (xs (i + 1)) (xs (i + 2)) (xs (i + 3)) (xs (i + 4))).2.1 else g := hw3
  subst hw2 hw3
  obtain ⟨hP1, -, hD1⟩ := hB
  rw [ht] at hP1
  obtain ⟨hPm, hD⟩ := jnL (Q := wM c0 am (th, n2, wk2, sd2, bt2, lt2, lo2, ct2, rk2, ad2, sp2, gd2, rf2, sm2, js2, sn2, wl2, vl2, bg2, cm2)) (P := WO c0 cL a o u g) hPm hD hk1 hD1 hFx
  have hPx : va_P (dC, dI) vwCl (WO c0 cL a o (f_share u (xs (i + 1)) (xs (i + 2)) (xs (i + 3)) (xs (i + 4))).2.2 (if (f_share u (xs (i + 1)) (xs (i + 2)) (xs (i + 3)) (xs (i + 4))).1 = 0 then vp_updL g 0 (f_share u (xs (i + 1)) (xs (i + 2)) (xs (i + 3)) (xs (i + 4))).2.1 else g)) H1 := hP1
  generalize H1 = H at hPx hPm hS ⊢
  refine lv_istore (lv' := [(5, .int ((f_share u (xs (i + 1)) (xs (i + 2)) (xs (i + 3)) (xs (i + 4))).1)), (0, .ref b), (1, .ref (a 0)), (2, .ref (am 0)), (3, .ref o), (4, .int (nI i))]) hx hb dL_law_145 hl (by decide) rfl (fun ls hl => ?_)
  refine lv_aload_n hx hb dL_law_147 rfl (lv_at hl 3 rfl) ?_
  refine lv_aload_n hx hb dL_law_148 rfl (lv_at hl 1 rfl) ?_
  refine lv_iload hx hb dL_law_149 (lv_at hl 5 rfl) ?_
  refine lv_iconst (v := 1) hx hb dL_law_151 (by decide) ?_
  refine lv_iadd hx hb dL_law_152 ?_
  rw [nad1 i]
  refine va_sld hx hb hX hbl hbA hS (vp_in_nI (n := i + 1) (by omega) (by omega)) dL_law_153 ?_
  rw [nI_clamp (n := i + 1) (by omega)]
  refine lv_aload_n hx hb dL_law_154 rfl (lv_at hl 1 rfl) ?_
  refine lv_iload hx hb dL_law_155 (lv_at hl 5 rfl) ?_
  refine lv_iconst (v := 2) hx hb dL_law_157 (by decide) ?_
  refine lv_iadd hx hb dL_law_158 ?_
  rw [nad2 i]
  refine va_sld hx hb hX hbl hbA hS (vp_in_nI (n := i + 2) (by omega) (by omega)) dL_law_159 ?_
  rw [nI_clamp (n := i + 2) (by omega)]
  refine lv_aload_n hx hb dL_law_160 rfl (lv_at hl 1 rfl) ?_
  refine lv_iload hx hb dL_law_161 (lv_at hl 5 rfl) ?_
  refine lv_iconst (v := 3) hx hb dL_law_163 (by decide) ?_
  refine lv_iadd hx hb dL_law_164 ?_
  rw [nad3 i]
  refine va_sld hx hb hX hbl hbA hS (vp_in_nI (n := i + 3) (by omega) (by omega)) dL_law_165 ?_
  rw [nI_clamp (n := i + 3) (by omega)]
  refine lv_aload_n hx hb dL_law_166 rfl (lv_at hl 1 rfl) ?_
  refine lv_iload hx hb dL_law_167 (lv_at hl 5 rfl) ?_
  refine lv_iconst (v := 4) hx hb dL_law_169 (by decide) ?_
  refine lv_iadd hx hb dL_law_170 ?_
  rw [nad4 i]
  refine va_sld hx hb hX hbl hbA hS (vp_in_nI (n := i + 4) (by omega) (by omega)) dL_law_171 ?_
  rw [nI_clamp (n := i + 4) (by omega)]
  have hFm := fre (dl hD) hS hA
  refine va_calli (va_runV (As := [.int (xs (i + 1)), .int (xs (i + 2)), .int (xs (i + 3)), .int (xs (i + 4))]) (rest := []) ⟨hx, hb, hml, hown, hts⟩ (c_M0_share l dC dI c0 am _ th n2 wk2 sd2 bt2 lt2 lo2 ct2 rk2 ad2 sp2 gd2 rf2 sm2 js2 sn2 wl2 vl2 bg2 cm2 (xs (i + 1)) (xs (i + 2)) (xs (i + 3)) (xs (i + 4)) hn2) (cwV 4 hts gL_law_M0_share rfl rfl rfl (by decide +kernel) ⟨(Nat.le_of_ble_eq_true rfl), (Nat.le_of_ble_eq_true rfl)⟩) ⟨PM_blind, va_recv hK hPm (ci := 4) (q0 := 0) rfl rfl, PM_give hPm (hK.sub [0] rfl) (dl hD) hE hS hFm⟩ rfl rfl hl.1 rfl (lv_room (Nat.le_of_ble_eq_true rfl)) dL_law_172 ⟨by show 100 + i + 2 + 0 ≤ 643794; omega, by show 1000 + 3 * i + 12 + 0 ≤ 7164688; omega⟩) hS (fun q _ h => hFm q h) hFm (fun r v2 t H1 locs ht hvm hw hB hz1 hk1 hS => ?_)
  obtain ⟨hP1, -, hD1⟩ := hB
  rw [ht] at hP1
  obtain ⟨hPx, hD⟩ := jnL (Q := WO c0 cL a o (f_share u (xs (i + 1)) (xs (i + 2)) (xs (i + 3)) (xs (i + 4))).2.2 (if (f_share u (xs (i + 1)) (xs (i + 2)) (xs (i + 3)) (xs (i + 4))).1 = 0 then vp_updL g 0 (f_share u (xs (i + 1)) (xs (i + 2)) (xs (i + 3)) (xs (i + 4))).2.1 else g)) (P := wM c0 am (th, n2, wk2, sd2, bt2, lt2, lo2, ct2, rk2, ad2, sp2, gd2, rf2, sm2, js2, sn2, wl2, vl2, bg2, cm2)) hPx (dsw hD) hk1 hD1 hFm
  have hD := dsw hD
  have hPm : va_P (dC, dI) vwCl (wM c0 am v2) H1 := hP1
  generalize H1 = H at hPx hPm hS ⊢
  have h3 := rel_share hR (by omega) (xs (i + 1)) (xs (i + 2)) (xs (i + 3)) (xs (i + 4))
  rw [hw] at h3
  obtain ⟨t1, t2, t3⟩ := h3
  obtain ⟨th_, n2_, wk2_, sd2_, bt2_, lt2_, lo2_, ct2_, rk2_, ad2_, sp2_, gd2_, rf2_, sm2_, js2_, sn2_, wl2_, vl2_, bg2_, cm2_⟩ := v2
  refine lv_istore (lv' := [(6, .int r), (5, .int ((f_share u (xs (i + 1)) (xs (i + 2)) (xs (i + 3)) (xs (i + 4))).1)), (0, .ref b), (1, .ref (a 0)), (2, .ref (am 0)), (3, .ref o), (4, .int (nI i))]) hx hb dL_law_175 hl (by decide) rfl (fun ls hl => ?_)
  refine lv_aload_n hx hb dL_law_177 rfl (lv_at hl 4 rfl) ?_
  have hFm := fre (dl hD) hS hA
  refine va_calli (va_runV (As := []) (rest := []) ⟨hx, hb, hml, hown, hts⟩ (c_M0_thrown l dC dI c0 am _ th_ n2_ wk2_ sd2_ bt2_ lt2_ lo2_ ct2_ rk2_ ad2_ sp2_ gd2_ rf2_ sm2_ js2_ sn2_ wl2_ vl2_ bg2_ cm2_) (cwV 0 hts gL_law_M0_thrown rfl rfl rfl (by decide +kernel) ⟨(Nat.le_of_ble_eq_true rfl), (Nat.le_of_ble_eq_true rfl)⟩) ⟨PM_blind, va_recv hK hPm (ci := 4) (q0 := 0) rfl rfl, PM_give hPm (hK.sub [0] rfl) (dl hD) hE hS hFm⟩ rfl rfl hl.1 rfl (lv_room (Nat.le_of_ble_eq_true rfl)) dL_law_178 ⟨by show 100 + i + 2 + 0 + 0 ≤ 643794; omega, by show 1000 + 3 * i + 12 + 0 + 0 ≤ 7164688; omega⟩) hS (fun q _ h => hFm q h) hFm (fun r9 v3 t H1 locs ht hvm hw hB hz1 hk1 hS => ?_)
  obtain ⟨rfl, e9⟩ := hw
  have e9 := e9.symm
  subst e9
  obtain ⟨hP1, -, hD1⟩ := hB
  rw [ht] at hP1
  obtain ⟨hPx, hD⟩ := jnL (Q := WO c0 cL a o (f_share u (xs (i + 1)) (xs (i + 2)) (xs (i + 3)) (xs (i + 4))).2.2 (if (f_share u (xs (i + 1)) (xs (i + 2)) (xs (i + 3)) (xs (i + 4))).1 = 0 then vp_updL g 0 (f_share u (xs (i + 1)) (xs (i + 2)) (xs (i + 3)) (xs (i + 4))).2.1 else g)) (P := wM c0 am (th_, n2_, wk2_, sd2_, bt2_, lt2_, lo2_, ct2_, rk2_, ad2_, sp2_, gd2_, rf2_, sm2_, js2_, sn2_, wl2_, vl2_, bg2_, cm2_)) hPx (dsw hD) hk1 hD1 hFm
  have hD := dsw hD
  have hPm : va_P (dC, dI) vwCl (wM c0 am (th_, n2_, wk2_, sd2_, bt2_, lt2_, lo2_, ct2_, rk2_, ad2_, sp2_, gd2_, rf2_, sm2_, js2_, sn2_, wl2_, vl2_, bg2_, cm2_)) H1 := hP1
  generalize H1 = H at hPx hPm hS ⊢
  refine lv_iload hx hb dL_law_181 (lv_at hl 1 rfl) ?_
  refine lv_icmp_eq (tgt := 188) hx hb dL_law_183 (by decide) (fun c_183 => ?_) (fun c_183 => ?_)
  · skip
    refine lv_iload hx hb dL_law_188 (lv_at hl 1 rfl) ?_
    refine lv_if_ne (tgt := 205) hx hb dL_law_190 (by decide) (fun c_190 => ?_) (fun c_190 => ?_)
    · skip
      refine lv_goto (tgt := 914) hx hb dL_law_205 (by decide) ?_
      refine lv_iinc (v := nI (i + 5)) (lv' := [(4, .int (nI (i + 5))), (6, .int r), (5, .int ((f_share u (xs (i + 1)) (xs (i + 2)) (xs (i + 3)) (xs (i + 4))).1)), (0, .ref b), (1, .ref (a 0)), (2, .ref (am 0)), (3, .ref o)]) hx hb dL_law_914 hl (k := 6) rfl (by rw [← nad5]; rfl) (by decide) rfl (fun ls hl => ?_)
      refine lv_goto (tgt := 33) hx hb dL_law_917 (by decide) ?_
      refine W.widen (k := 100 + (i + 5)) (n := 1000 + 3 * (i + 5)) (by omega) (by omega) ?_
      exact ih (i + 5) _ _ _ rfl (by omega) (t3.le (by omega)) _ _ _ hPx hPm hD hS (lv_sub hl [3, 4, 5, 6, 0] rfl)
    · skip
      refine lv_aload_n hx hb dL_law_193 rfl (lv_at hl 5 rfl) ?_
      refine lv_iconst (v := 0) hx hb dL_law_194 (by decide) ?_
      refine va_lald hx hb hK hPx 0 1 rfl rfl in01 dL_law_195 ?_
      rw [sb_cl0]
      refine lv_iload hx hb dL_law_196 (lv_at hl 0 rfl) ?_
      refine lv_i2l hx hb dL_law_198 (v := r.toInt64) rfl ?_
      refine W.lcmp hx hb dL_law_199 ?_
      refine lv_if_eq (tgt := 205) hx hb dL_law_200 (by decide) (fun c_200 => ?_) (fun c_200 => ?_)
      · skip
        refine lv_goto (tgt := 914) hx hb dL_law_205 (by decide) ?_
        refine lv_iinc (v := nI (i + 5)) (lv' := [(4, .int (nI (i + 5))), (6, .int r), (5, .int ((f_share u (xs (i + 1)) (xs (i + 2)) (xs (i + 3)) (xs (i + 4))).1)), (0, .ref b), (1, .ref (a 0)), (2, .ref (am 0)), (3, .ref o)]) hx hb dL_law_914 hl (k := 6) rfl (by rw [← nad5]; rfl) (by decide) rfl (fun ls hl => ?_)
        refine lv_goto (tgt := 33) hx hb dL_law_917 (by decide) ?_
        refine W.widen (k := 100 + (i + 5)) (n := 1000 + 3 * (i + 5)) (by omega) (by omega) ?_
        exact ih (i + 5) _ _ _ rfl (by omega) (t3.le (by omega)) _ _ _ hPx hPm hD hS (lv_sub hl [3, 4, 5, 6, 0] rfl)
      · skip
        exact absurd ((lg_cmp_eq _ _).mpr (show (if (f_share u (xs (i + 1)) (xs (i + 2)) (xs (i + 3)) (xs (i + 4))).1 = 0 then vp_updL g 0 (f_share u (xs (i + 1)) (xs (i + 2)) (xs (i + 3)) (xs (i + 4))).2.1 else g) 0 = r.toInt64 from by rw [if_pos c_190, pk_uLs]; exact t2 c_190)) c_200
  · skip
    exact absurd t1 c_183
set_option maxHeartbeats 4000000 in
set_option maxRecDepth 100000 in
theorem law_fails {p : Program} {l : Launch} {e : Env} {s : State} {m : MethodId} {below : List Frame} {meth : Method} {c : Code} (hl9 : l.stackTraces = false) {dC : Nat → ClassId} {dI : Nat → Nat → Nat} {b L : Nat} {xs : Nat → Int32} (hL : L ≤ 2561) (C0 : lw_At p s m meth c b L xs) (hE : EV (fun q : Nat => s.heap.size ≤ q) s s.heap) {c0 cL : ClassId} {a am : Nat → Nat} {o : Nat} (hK : va_K (dC, dI) vwCl [(c0, .int), (cL, .long)] s) {i : Nat} {u : xS} {v : mS} {g : Nat → Int64} (hi : i + 5 ≤ L) (hR : Rel i u v) (ih : ∀ (i2 : Nat) (u : xS) (v : mS) (g : Nat → Int64), i2 = i + 5 → i2 ≤ L → Rel i2 u v → ∀ (H : Heap) (locs : List Loc) (ls : Array Slot), va_P (dC, dI) vwCl (WO c0 cL a o u g) H → va_P (dC, dI) vwCl (wM c0 am v) H → va_D (fun q : Nat => s.heap.size ≤ q) (wM c0 am v ++ WO c0 cL a o u g) → va_S (fun q : Nat => s.heap.size ≤ q) s.heap H locs → lv_has ls 8 [(0, .ref b), (1, .ref (a 0)), (2, .ref (am 0)), (3, .ref o), (4, .int (nI i2))] → W p l e room_1 s m #[Value.ref b] below meth c H locs (100 + i2) (1000 + 3 * i2) (lw_Z below #[Value.ref b] s) (F0 m 33 ls [])) : ∀ (H : Heap) (locs : List Loc) (ls : Array Slot), va_P (dC, dI) vwCl (WO c0 cL a o u g) H → va_P (dC, dI) vwCl (wM c0 am v) H → va_D (fun q : Nat => s.heap.size ≤ q) (wM c0 am v ++ WO c0 cL a o u g) → va_S (fun q : Nat => s.heap.size ≤ q) s.heap H locs → lv_has ls 8 [(0, .ref b), (1, .ref (a 0)), (2, .ref (am 0)), (3, .ref o), (4, .int (nI i))] → W p l e room_1 s m #[Value.ref b] below meth c H locs (100 + i) (1000 + 3 * i) (lw_Z below #[Value.ref b] s) (F0 m 208 ls []) := by
  obtain ⟨hx, hb, hr, hml, hown, -, hX, hbl, hlocks, hgv⟩ := C0
  have hown : s.vm.findClass RL = some m.cls := hown
  have hA : ∀ q : Nat, s.heap.size ≤ q → (fun q : Nat => s.heap.size ≤ q) q := fun _ h => h
  have hbA : ¬ (fun q : Nat => s.heap.size ≤ q) b := Nat.not_le.mpr hbl
  have hts := hE.ts (args := #[Value.ref b])
  obtain ⟨th, n2, wk2, sd2, bt2, lt2, lo2, ct2, rk2, ad2, sp2, gd2, rf2, sm2, js2, sn2, wl2, vl2, bg2, cm2⟩ := v
  obtain ⟨hn2, hct2⟩ := hR.mok
  have hok := hR.ok
  intro H locs ls hPx hPm hD hS hl
  refine lv_aload_n hx hb dL_law_208 rfl (lv_at hl 1 rfl) ?_
  refine lv_aload_n hx hb dL_law_209 rfl (lv_at hl 0 rfl) ?_
  refine lv_iload hx hb dL_law_210 (lv_at hl 4 rfl) ?_
  refine lv_iconst (v := 1) hx hb dL_law_212 (by decide) ?_
  refine lv_iadd hx hb dL_law_213 ?_
  rw [nad1 i]
  refine va_sld hx hb hX hbl hbA hS (vp_in_nI (n := i + 1) (by omega) (by omega)) dL_law_214 ?_
  rw [nI_clamp (n := i + 1) (by omega)]
  refine lv_aload_n hx hb dL_law_215 rfl (lv_at hl 0 rfl) ?_
  refine lv_iload hx hb dL_law_216 (lv_at hl 4 rfl) ?_
  refine lv_iconst (v := 2) hx hb dL_law_218 (by decide) ?_
  refine lv_iadd hx hb dL_law_219 ?_
  rw [nad2 i]
  refine va_sld hx hb hX hbl hbA hS (vp_in_nI (n := i + 2) (by omega) (by omega)) dL_law_220 ?_
  rw [nI_clamp (n := i + 2) (by omega)]
  refine lv_aload_n hx hb dL_law_221 rfl (lv_at hl 0 rfl) ?_
  refine lv_iload hx hb dL_law_222 (lv_at hl 4 rfl) ?_
  refine lv_iconst (v := 3) hx hb dL_law_224 (by decide) ?_
  refine lv_iadd hx hb dL_law_225 ?_
  rw [nad3 i]
  refine va_sld hx hb hX hbl hbA hS (vp_in_nI (n := i + 3) (by omega) (by omega)) dL_law_226 ?_
  rw [nI_clamp (n := i + 3) (by omega)]
  refine lv_aload_n hx hb dL_law_227 rfl (lv_at hl 3 rfl) ?_
  have hFx := fre (dr hD) hS hA
  refine va_calli (vx_runSW (As := [.ref (a 0), .int (xs (i + 1)), .int (xs (i + 2)), .int (xs (i + 3)), .ref o]) (rest := []) ⟨hx, hb, hml, hown, hts⟩ (c_L_fails l hl9 dC dI c0 cL o g a _ u hok (xs (i + 1)) (xs (i + 2)) (xs (i + 3))) (vx_cwSW 5 hts gL_law_L_fails rfl rfl rfl (by decide +kernel) ⟨(Nat.le_of_ble_eq_true rfl), (Nat.le_of_ble_eq_true rfl)⟩) ⟨PW_blind, PW_give hPx hK (dr hD) hE hS hFx⟩ rfl rfl hl.1 rfl (lv_room (Nat.le_of_ble_eq_true rfl)) dL_law_228 ⟨by show 100 + i + 2 ≤ 643794; omega, by show 1000 + 3 * i + 12 ≤ 7164688; omega⟩) hS (fun q _ h => hFx q h) hFx (fun r v9 t H1 locs ht hvm hw hB hz1 hk1 hS => ?_)
  obtain ⟨u9, g9⟩ := v9
  obtain ⟨rfl, hw2, hw3⟩ := hw
  have hw2 : u9 = (f_fails u (xs (i + 1)) (xs (i + 2)) (xs (i + 3))).2.2 := hw2
  have hw3 : g9 = if (f_fails u (xs (i + 1)) (xs (i + 2)) (xs (i + 3))).1 = 0 then vp_updL g 0 (f_fails u (xs (i + 1)) (xs (i + 2)) (xs (i + 3))).2.1 else g := hw3
  subst hw2 hw3
  obtain ⟨hP1, -, hD1⟩ := hB
  rw [ht] at hP1
  obtain ⟨hPm, hD⟩ := jnL (Q := wM c0 am (th, n2, wk2, sd2, bt2, lt2, lo2, ct2, rk2, ad2, sp2, gd2, rf2, sm2, js2, sn2, wl2, vl2, bg2, cm2)) (P := WO c0 cL a o u g) hPm hD hk1 hD1 hFx
  have hPx : va_P (dC, dI) vwCl (WO c0 cL a o (f_fails u (xs (i + 1)) (xs (i + 2)) (xs (i + 3))).2.2 (if (f_fails u (xs (i + 1)) (xs (i + 2)) (xs (i + 3))).1 = 0 then vp_updL g 0 (f_fails u (xs (i + 1)) (xs (i + 2)) (xs (i + 3))).2.1 else g)) H1 := hP1
  generalize H1 = H at hPx hPm hS ⊢
  refine lv_istore (lv' := [(5, .int ((f_fails u (xs (i + 1)) (xs (i + 2)) (xs (i + 3))).1)), (0, .ref b), (1, .ref (a 0)), (2, .ref (am 0)), (3, .ref o), (4, .int (nI i))]) hx hb dL_law_231 hl (by decide) rfl (fun ls hl => ?_)
  refine lv_aload_n hx hb dL_law_233 rfl (lv_at hl 3 rfl) ?_
  refine lv_aload_n hx hb dL_law_234 rfl (lv_at hl 1 rfl) ?_
  refine lv_iload hx hb dL_law_235 (lv_at hl 5 rfl) ?_
  refine lv_iconst (v := 1) hx hb dL_law_237 (by decide) ?_
  refine lv_iadd hx hb dL_law_238 ?_
  rw [nad1 i]
  refine va_sld hx hb hX hbl hbA hS (vp_in_nI (n := i + 1) (by omega) (by omega)) dL_law_239 ?_
  rw [nI_clamp (n := i + 1) (by omega)]
  refine lv_aload_n hx hb dL_law_240 rfl (lv_at hl 1 rfl) ?_
  refine lv_iload hx hb dL_law_241 (lv_at hl 5 rfl) ?_
  refine lv_iconst (v := 2) hx hb dL_law_243 (by decide) ?_
  refine lv_iadd hx hb dL_law_244 ?_
  rw [nad2 i]
  refine va_sld hx hb hX hbl hbA hS (vp_in_nI (n := i + 2) (by omega) (by omega)) dL_law_245 ?_
  rw [nI_clamp (n := i + 2) (by omega)]
  refine lv_aload_n hx hb dL_law_246 rfl (lv_at hl 1 rfl) ?_
  refine lv_iload hx hb dL_law_247 (lv_at hl 5 rfl) ?_
  refine lv_iconst (v := 3) hx hb dL_law_249 (by decide) ?_
  refine lv_iadd hx hb dL_law_250 ?_
  rw [nad3 i]
  refine va_sld hx hb hX hbl hbA hS (vp_in_nI (n := i + 3) (by omega) (by omega)) dL_law_251 ?_
  rw [nI_clamp (n := i + 3) (by omega)]
  have hFm := fre (dl hD) hS hA
  refine va_calli (va_runV (As := [.int (xs (i + 1)), .int (xs (i + 2)), .int (xs (i + 3))]) (rest := []) ⟨hx, hb, hml, hown, hts⟩ (c_M0_fails l dC dI c0 am _ th n2 wk2 sd2 bt2 lt2 lo2 ct2 rk2 ad2 sp2 gd2 rf2 sm2 js2 sn2 wl2 vl2 bg2 cm2 (xs (i + 1)) (xs (i + 2)) (xs (i + 3)) hn2) (cwV 3 hts gL_law_M0_fails rfl rfl rfl (by decide +kernel) ⟨(Nat.le_of_ble_eq_true rfl), (Nat.le_of_ble_eq_true rfl)⟩) ⟨PM_blind, va_recv hK hPm (ci := 4) (q0 := 0) rfl rfl, PM_give hPm (hK.sub [0] rfl) (dl hD) hE hS hFm⟩ rfl rfl hl.1 rfl (lv_room (Nat.le_of_ble_eq_true rfl)) dL_law_252 ⟨by show 100 + i + 2 + 0 ≤ 643794; omega, by show 1000 + 3 * i + 12 + 0 ≤ 7164688; omega⟩) hS (fun q _ h => hFm q h) hFm (fun r v2 t H1 locs ht hvm hw hB hz1 hk1 hS => ?_)
  obtain ⟨hP1, -, hD1⟩ := hB
  rw [ht] at hP1
  obtain ⟨hPx, hD⟩ := jnL (Q := WO c0 cL a o (f_fails u (xs (i + 1)) (xs (i + 2)) (xs (i + 3))).2.2 (if (f_fails u (xs (i + 1)) (xs (i + 2)) (xs (i + 3))).1 = 0 then vp_updL g 0 (f_fails u (xs (i + 1)) (xs (i + 2)) (xs (i + 3))).2.1 else g)) (P := wM c0 am (th, n2, wk2, sd2, bt2, lt2, lo2, ct2, rk2, ad2, sp2, gd2, rf2, sm2, js2, sn2, wl2, vl2, bg2, cm2)) hPx (dsw hD) hk1 hD1 hFm
  have hD := dsw hD
  have hPm : va_P (dC, dI) vwCl (wM c0 am v2) H1 := hP1
  generalize H1 = H at hPx hPm hS ⊢
  have h3 := rel_fails hR (by omega) (xs (i + 1)) (xs (i + 2)) (xs (i + 3))
  rw [hw] at h3
  obtain ⟨t1, t2, t3⟩ := h3
  obtain ⟨th_, n2_, wk2_, sd2_, bt2_, lt2_, lo2_, ct2_, rk2_, ad2_, sp2_, gd2_, rf2_, sm2_, js2_, sn2_, wl2_, vl2_, bg2_, cm2_⟩ := v2
  refine lv_istore (lv' := [(6, .int r), (5, .int ((f_fails u (xs (i + 1)) (xs (i + 2)) (xs (i + 3))).1)), (0, .ref b), (1, .ref (a 0)), (2, .ref (am 0)), (3, .ref o), (4, .int (nI i))]) hx hb dL_law_255 hl (by decide) rfl (fun ls hl => ?_)
  refine lv_aload_n hx hb dL_law_257 rfl (lv_at hl 4 rfl) ?_
  have hFm := fre (dl hD) hS hA
  refine va_calli (va_runV (As := []) (rest := []) ⟨hx, hb, hml, hown, hts⟩ (c_M0_thrown l dC dI c0 am _ th_ n2_ wk2_ sd2_ bt2_ lt2_ lo2_ ct2_ rk2_ ad2_ sp2_ gd2_ rf2_ sm2_ js2_ sn2_ wl2_ vl2_ bg2_ cm2_) (cwV 0 hts gL_law_M0_thrown rfl rfl rfl (by decide +kernel) ⟨(Nat.le_of_ble_eq_true rfl), (Nat.le_of_ble_eq_true rfl)⟩) ⟨PM_blind, va_recv hK hPm (ci := 4) (q0 := 0) rfl rfl, PM_give hPm (hK.sub [0] rfl) (dl hD) hE hS hFm⟩ rfl rfl hl.1 rfl (lv_room (Nat.le_of_ble_eq_true rfl)) dL_law_258 ⟨by show 100 + i + 2 + 0 + 0 ≤ 643794; omega, by show 1000 + 3 * i + 12 + 0 + 0 ≤ 7164688; omega⟩) hS (fun q _ h => hFm q h) hFm (fun r9 v3 t H1 locs ht hvm hw hB hz1 hk1 hS => ?_)
  obtain ⟨rfl, e9⟩ := hw
  have e9 := e9.symm
  subst e9
  obtain ⟨hP1, -, hD1⟩ := hB
  rw [ht] at hP1
  obtain ⟨hPx, hD⟩ := jnL (Q := WO c0 cL a o (f_fails u (xs (i + 1)) (xs (i + 2)) (xs (i + 3))).2.2 (if (f_fails u (xs (i + 1)) (xs (i + 2)) (xs (i + 3))).1 = 0 then vp_updL g 0 (f_fails u (xs (i + 1)) (xs (i + 2)) (xs (i + 3))).2.1 else g)) (P := wM c0 am (th_, n2_, wk2_, sd2_, bt2_, lt2_, lo2_, ct2_, rk2_, ad2_, sp2_, gd2_, rf2_, sm2_, js2_, sn2_, wl2_, vl2_, bg2_, cm2_)) hPx (dsw hD) hk1 hD1 hFm
  have hD := dsw hD
  have hPm : va_P (dC, dI) vwCl (wM c0 am (th_, n2_, wk2_, sd2_, bt2_, lt2_, lo2_, ct2_, rk2_, ad2_, sp2_, gd2_, rf2_, sm2_, js2_, sn2_, wl2_, vl2_, bg2_, cm2_)) H1 := hP1
  generalize H1 = H at hPx hPm hS ⊢
  refine lv_iload hx hb dL_law_261 (lv_at hl 1 rfl) ?_
  refine lv_icmp_eq (tgt := 268) hx hb dL_law_263 (by decide) (fun c_263 => ?_) (fun c_263 => ?_)
  · skip
    refine lv_iload hx hb dL_law_268 (lv_at hl 1 rfl) ?_
    refine lv_if_ne (tgt := 285) hx hb dL_law_270 (by decide) (fun c_270 => ?_) (fun c_270 => ?_)
    · skip
      refine lv_goto (tgt := 914) hx hb dL_law_285 (by decide) ?_
      refine lv_iinc (v := nI (i + 5)) (lv' := [(4, .int (nI (i + 5))), (6, .int r), (5, .int ((f_fails u (xs (i + 1)) (xs (i + 2)) (xs (i + 3))).1)), (0, .ref b), (1, .ref (a 0)), (2, .ref (am 0)), (3, .ref o)]) hx hb dL_law_914 hl (k := 6) rfl (by rw [← nad5]; rfl) (by decide) rfl (fun ls hl => ?_)
      refine lv_goto (tgt := 33) hx hb dL_law_917 (by decide) ?_
      refine W.widen (k := 100 + (i + 5)) (n := 1000 + 3 * (i + 5)) (by omega) (by omega) ?_
      exact ih (i + 5) _ _ _ rfl (by omega) (t3.le (by omega)) _ _ _ hPx hPm hD hS (lv_sub hl [3, 4, 5, 6, 0] rfl)
    · skip
      refine lv_aload_n hx hb dL_law_273 rfl (lv_at hl 5 rfl) ?_
      refine lv_iconst (v := 0) hx hb dL_law_274 (by decide) ?_
      refine va_lald hx hb hK hPx 0 1 rfl rfl in01 dL_law_275 ?_
      rw [sb_cl0]
      refine lv_iload hx hb dL_law_276 (lv_at hl 0 rfl) ?_
      refine lv_i2l hx hb dL_law_278 (v := r.toInt64) rfl ?_
      refine W.lcmp hx hb dL_law_279 ?_
      refine lv_if_eq (tgt := 285) hx hb dL_law_280 (by decide) (fun c_280 => ?_) (fun c_280 => ?_)
      · skip
        refine lv_goto (tgt := 914) hx hb dL_law_285 (by decide) ?_
        refine lv_iinc (v := nI (i + 5)) (lv' := [(4, .int (nI (i + 5))), (6, .int r), (5, .int ((f_fails u (xs (i + 1)) (xs (i + 2)) (xs (i + 3))).1)), (0, .ref b), (1, .ref (a 0)), (2, .ref (am 0)), (3, .ref o)]) hx hb dL_law_914 hl (k := 6) rfl (by rw [← nad5]; rfl) (by decide) rfl (fun ls hl => ?_)
        refine lv_goto (tgt := 33) hx hb dL_law_917 (by decide) ?_
        refine W.widen (k := 100 + (i + 5)) (n := 1000 + 3 * (i + 5)) (by omega) (by omega) ?_
        exact ih (i + 5) _ _ _ rfl (by omega) (t3.le (by omega)) _ _ _ hPx hPm hD hS (lv_sub hl [3, 4, 5, 6, 0] rfl)
      · skip
        exact absurd ((lg_cmp_eq _ _).mpr (show (if (f_fails u (xs (i + 1)) (xs (i + 2)) (xs (i + 3))).1 = 0 then vp_updL g 0 (f_fails u (xs (i + 1)) (xs (i + 2)) (xs (i + 3))).2.1 else g) 0 = r.toInt64 from by rw [if_pos c_270, pk_uLs]; exact t2 c_270)) c_280
  · skip
    exact absurd t1 c_263
set_option maxHeartbeats 4000000 in
set_option maxRecDepth 100000 in
theorem law_act {p : Program} {l : Launch} {e : Env} {s : State} {m : MethodId} {below : List Frame} {meth : Method} {c : Code} (hl9 : l.stackTraces = false) {dC : Nat → ClassId} {dI : Nat → Nat → Nat} {b L : Nat} {xs : Nat → Int32} (hL : L ≤ 2561) (C0 : lw_At p s m meth c b L xs) (hE : EV (fun q : Nat => s.heap.size ≤ q) s s.heap) {c0 cL : ClassId} {a am : Nat → Nat} {o : Nat} (hK : va_K (dC, dI) vwCl [(c0, .int), (cL, .long)] s) {i : Nat} {u : xS} {v : mS} {g : Nat → Int64} (hi : i + 5 ≤ L) (hR : Rel i u v) (ih : ∀ (i2 : Nat) (u : xS) (v : mS) (g : Nat → Int64), i2 = i + 5 → i2 ≤ L → Rel i2 u v → ∀ (H : Heap) (locs : List Loc) (ls : Array Slot), va_P (dC, dI) vwCl (WO c0 cL a o u g) H → va_P (dC, dI) vwCl (wM c0 am v) H → va_D (fun q : Nat => s.heap.size ≤ q) (wM c0 am v ++ WO c0 cL a o u g) → va_S (fun q : Nat => s.heap.size ≤ q) s.heap H locs → lv_has ls 8 [(0, .ref b), (1, .ref (a 0)), (2, .ref (am 0)), (3, .ref o), (4, .int (nI i2))] → W p l e room_1 s m #[Value.ref b] below meth c H locs (100 + i2) (1000 + 3 * i2) (lw_Z below #[Value.ref b] s) (F0 m 33 ls [])) : ∀ (H : Heap) (locs : List Loc) (ls : Array Slot), va_P (dC, dI) vwCl (WO c0 cL a o u g) H → va_P (dC, dI) vwCl (wM c0 am v) H → va_D (fun q : Nat => s.heap.size ≤ q) (wM c0 am v ++ WO c0 cL a o u g) → va_S (fun q : Nat => s.heap.size ≤ q) s.heap H locs → lv_has ls 8 [(0, .ref b), (1, .ref (a 0)), (2, .ref (am 0)), (3, .ref o), (4, .int (nI i))] → W p l e room_1 s m #[Value.ref b] below meth c H locs (100 + i) (1000 + 3 * i) (lw_Z below #[Value.ref b] s) (F0 m 288 ls []) := by
  obtain ⟨hx, hb, hr, hml, hown, -, hX, hbl, hlocks, hgv⟩ := C0
  have hown : s.vm.findClass RL = some m.cls := hown
  have hA : ∀ q : Nat, s.heap.size ≤ q → (fun q : Nat => s.heap.size ≤ q) q := fun _ h => h
  have hbA : ¬ (fun q : Nat => s.heap.size ≤ q) b := Nat.not_le.mpr hbl
  have hts := hE.ts (args := #[Value.ref b])
  obtain ⟨th, n2, wk2, sd2, bt2, lt2, lo2, ct2, rk2, ad2, sp2, gd2, rf2, sm2, js2, sn2, wl2, vl2, bg2, cm2⟩ := v
  obtain ⟨hn2, hct2⟩ := hR.mok
  have hok := hR.ok
  intro H locs ls hPx hPm hD hS hl
  refine lv_aload_n hx hb dL_law_288 rfl (lv_at hl 1 rfl) ?_
  refine lv_aload_n hx hb dL_law_289 rfl (lv_at hl 0 rfl) ?_
  refine lv_iload hx hb dL_law_290 (lv_at hl 4 rfl) ?_
  refine lv_iconst (v := 1) hx hb dL_law_292 (by decide) ?_
  refine lv_iadd hx hb dL_law_293 ?_
  rw [nad1 i]
  refine va_sld hx hb hX hbl hbA hS (vp_in_nI (n := i + 1) (by omega) (by omega)) dL_law_294 ?_
  rw [nI_clamp (n := i + 1) (by omega)]
  refine lv_aload_n hx hb dL_law_295 rfl (lv_at hl 0 rfl) ?_
  refine lv_iload hx hb dL_law_296 (lv_at hl 4 rfl) ?_
  refine lv_iconst (v := 2) hx hb dL_law_298 (by decide) ?_
  refine lv_iadd hx hb dL_law_299 ?_
  rw [nad2 i]
  refine va_sld hx hb hX hbl hbA hS (vp_in_nI (n := i + 2) (by omega) (by omega)) dL_law_300 ?_
  rw [nI_clamp (n := i + 2) (by omega)]
  refine lv_aload_n hx hb dL_law_301 rfl (lv_at hl 3 rfl) ?_
  have hFx := fre (dr hD) hS hA
  refine va_calli (vx_runSW (As := [.ref (a 0), .int (xs (i + 1)), .int (xs (i + 2)), .ref o]) (rest := []) ⟨hx, hb, hml, hown, hts⟩ (c_L_act l hl9 dC dI c0 cL o g a _ u hok (xs (i + 1)) (xs (i + 2))) (vx_cwSW 4 hts gL_law_L_act rfl rfl rfl (by decide +kernel) ⟨(Nat.le_of_ble_eq_true rfl), (Nat.le_of_ble_eq_true rfl)⟩) ⟨PW_blind, PW_give hPx hK (dr hD) hE hS hFx⟩ rfl rfl hl.1 rfl (lv_room (Nat.le_of_ble_eq_true rfl)) dL_law_302 ⟨by show 100 + i + 1 ≤ 643794; omega, by show 1000 + 3 * i + 6 ≤ 7164688; omega⟩) hS (fun q _ h => hFx q h) hFx (fun r v9 t H1 locs ht hvm hw hB hz1 hk1 hS => ?_)
  obtain ⟨u9, g9⟩ := v9
  obtain ⟨rfl, hw2, hw3⟩ := hw
  have hw2 : u9 = (f_act u (xs (i + 1)) (xs (i + 2))).2.2 := hw2
  have hw3 : g9 = if (f_act u (xs (i + 1)) (xs (i + 2))).1 = 0 then vp_updL g 0 (f_act u (xs (i + 1)) (xs (i + 2))).2.1 else g := hw3
  subst hw2 hw3
  obtain ⟨hP1, -, hD1⟩ := hB
  rw [ht] at hP1
  obtain ⟨hPm, hD⟩ := jnL (Q := wM c0 am (th, n2, wk2, sd2, bt2, lt2, lo2, ct2, rk2, ad2, sp2, gd2, rf2, sm2, js2, sn2, wl2, vl2, bg2, cm2)) (P := WO c0 cL a o u g) hPm hD hk1 hD1 hFx
  have hPx : va_P (dC, dI) vwCl (WO c0 cL a o (f_act u (xs (i + 1)) (xs (i + 2))).2.2 (if (f_act u (xs (i + 1)) (xs (i + 2))).1 = 0 then vp_updL g 0 (f_act u (xs (i + 1)) (xs (i + 2))).2.1 else g)) H1 := hP1
  generalize H1 = H at hPx hPm hS ⊢
  refine lv_istore (lv' := [(5, .int ((f_act u (xs (i + 1)) (xs (i + 2))).1)), (0, .ref b), (1, .ref (a 0)), (2, .ref (am 0)), (3, .ref o), (4, .int (nI i))]) hx hb dL_law_305 hl (by decide) rfl (fun ls hl => ?_)
  refine lv_aload_n hx hb dL_law_307 rfl (lv_at hl 3 rfl) ?_
  refine lv_aload_n hx hb dL_law_308 rfl (lv_at hl 1 rfl) ?_
  refine lv_iload hx hb dL_law_309 (lv_at hl 5 rfl) ?_
  refine lv_iconst (v := 1) hx hb dL_law_311 (by decide) ?_
  refine lv_iadd hx hb dL_law_312 ?_
  rw [nad1 i]
  refine va_sld hx hb hX hbl hbA hS (vp_in_nI (n := i + 1) (by omega) (by omega)) dL_law_313 ?_
  rw [nI_clamp (n := i + 1) (by omega)]
  refine lv_aload_n hx hb dL_law_314 rfl (lv_at hl 1 rfl) ?_
  refine lv_iload hx hb dL_law_315 (lv_at hl 5 rfl) ?_
  refine lv_iconst (v := 2) hx hb dL_law_317 (by decide) ?_
  refine lv_iadd hx hb dL_law_318 ?_
  rw [nad2 i]
  refine va_sld hx hb hX hbl hbA hS (vp_in_nI (n := i + 2) (by omega) (by omega)) dL_law_319 ?_
  rw [nI_clamp (n := i + 2) (by omega)]
  have hFm := fre (dl hD) hS hA
  refine va_calli (va_runV (As := [.int (xs (i + 1)), .int (xs (i + 2))]) (rest := []) ⟨hx, hb, hml, hown, hts⟩ (c_M0_act l dC dI c0 am _ th n2 wk2 sd2 bt2 lt2 lo2 ct2 rk2 ad2 sp2 gd2 rf2 sm2 js2 sn2 wl2 vl2 bg2 cm2 (xs (i + 1)) (xs (i + 2)) hct2) (cwV 2 hts gL_law_M0_act rfl rfl rfl (by decide +kernel) ⟨(Nat.le_of_ble_eq_true rfl), (Nat.le_of_ble_eq_true rfl)⟩) ⟨PM_blind, va_recv hK hPm (ci := 4) (q0 := 0) rfl rfl, PM_give hPm (hK.sub [0] rfl) (dl hD) hE hS hFm⟩ rfl rfl hl.1 rfl (lv_room (Nat.le_of_ble_eq_true rfl)) dL_law_320 ⟨by show 100 + i + 1 + 0 ≤ 643794; omega, by show 1000 + 3 * i + 6 + 0 ≤ 7164688; omega⟩) hS (fun q _ h => hFm q h) hFm (fun r v2 t H1 locs ht hvm hw hB hz1 hk1 hS => ?_)
  obtain ⟨hP1, -, hD1⟩ := hB
  rw [ht] at hP1
  obtain ⟨hPx, hD⟩ := jnL (Q := WO c0 cL a o (f_act u (xs (i + 1)) (xs (i + 2))).2.2 (if (f_act u (xs (i + 1)) (xs (i + 2))).1 = 0 then vp_updL g 0 (f_act u (xs (i + 1)) (xs (i + 2))).2.1 else g)) (P := wM c0 am (th, n2, wk2, sd2, bt2, lt2, lo2, ct2, rk2, ad2, sp2, gd2, rf2, sm2, js2, sn2, wl2, vl2, bg2, cm2)) hPx (dsw hD) hk1 hD1 hFm
  have hD := dsw hD
  have hPm : va_P (dC, dI) vwCl (wM c0 am v2) H1 := hP1
  generalize H1 = H at hPx hPm hS ⊢
  have h3 := rel_act hR (by omega) (xs (i + 1)) (xs (i + 2))
  rw [hw] at h3
  obtain ⟨t1, t2, t3⟩ := h3
  obtain ⟨th_, n2_, wk2_, sd2_, bt2_, lt2_, lo2_, ct2_, rk2_, ad2_, sp2_, gd2_, rf2_, sm2_, js2_, sn2_, wl2_, vl2_, bg2_, cm2_⟩ := v2
  refine lv_istore (lv' := [(6, .int r), (5, .int ((f_act u (xs (i + 1)) (xs (i + 2))).1)), (0, .ref b), (1, .ref (a 0)), (2, .ref (am 0)), (3, .ref o), (4, .int (nI i))]) hx hb dL_law_323 hl (by decide) rfl (fun ls hl => ?_)
  refine lv_aload_n hx hb dL_law_325 rfl (lv_at hl 4 rfl) ?_
  have hFm := fre (dl hD) hS hA
  refine va_calli (va_runV (As := []) (rest := []) ⟨hx, hb, hml, hown, hts⟩ (c_M0_thrown l dC dI c0 am _ th_ n2_ wk2_ sd2_ bt2_ lt2_ lo2_ ct2_ rk2_ ad2_ sp2_ gd2_ rf2_ sm2_ js2_ sn2_ wl2_ vl2_ bg2_ cm2_) (cwV 0 hts gL_law_M0_thrown rfl rfl rfl (by decide +kernel) ⟨(Nat.le_of_ble_eq_true rfl), (Nat.le_of_ble_eq_true rfl)⟩) ⟨PM_blind, va_recv hK hPm (ci := 4) (q0 := 0) rfl rfl, PM_give hPm (hK.sub [0] rfl) (dl hD) hE hS hFm⟩ rfl rfl hl.1 rfl (lv_room (Nat.le_of_ble_eq_true rfl)) dL_law_326 ⟨by show 100 + i + 1 + 0 + 0 ≤ 643794; omega, by show 1000 + 3 * i + 6 + 0 + 0 ≤ 7164688; omega⟩) hS (fun q _ h => hFm q h) hFm (fun r9 v3 t H1 locs ht hvm hw hB hz1 hk1 hS => ?_)
  obtain ⟨rfl, e9⟩ := hw
  have e9 := e9.symm
  subst e9
  obtain ⟨hP1, -, hD1⟩ := hB
  rw [ht] at hP1
  obtain ⟨hPx, hD⟩ := jnL (Q := WO c0 cL a o (f_act u (xs (i + 1)) (xs (i + 2))).2.2 (if (f_act u (xs (i + 1)) (xs (i + 2))).1 = 0 then vp_updL g 0 (f_act u (xs (i + 1)) (xs (i + 2))).2.1 else g)) (P := wM c0 am (th_, n2_, wk2_, sd2_, bt2_, lt2_, lo2_, ct2_, rk2_, ad2_, sp2_, gd2_, rf2_, sm2_, js2_, sn2_, wl2_, vl2_, bg2_, cm2_)) hPx (dsw hD) hk1 hD1 hFm
  have hD := dsw hD
  have hPm : va_P (dC, dI) vwCl (wM c0 am (th_, n2_, wk2_, sd2_, bt2_, lt2_, lo2_, ct2_, rk2_, ad2_, sp2_, gd2_, rf2_, sm2_, js2_, sn2_, wl2_, vl2_, bg2_, cm2_)) H1 := hP1
  generalize H1 = H at hPx hPm hS ⊢
  refine lv_iload hx hb dL_law_329 (lv_at hl 1 rfl) ?_
  refine lv_icmp_eq (tgt := 336) hx hb dL_law_331 (by decide) (fun c_331 => ?_) (fun c_331 => ?_)
  · skip
    refine lv_iload hx hb dL_law_336 (lv_at hl 1 rfl) ?_
    refine lv_if_ne (tgt := 353) hx hb dL_law_338 (by decide) (fun c_338 => ?_) (fun c_338 => ?_)
    · skip
      refine lv_goto (tgt := 914) hx hb dL_law_353 (by decide) ?_
      refine lv_iinc (v := nI (i + 5)) (lv' := [(4, .int (nI (i + 5))), (6, .int r), (5, .int ((f_act u (xs (i + 1)) (xs (i + 2))).1)), (0, .ref b), (1, .ref (a 0)), (2, .ref (am 0)), (3, .ref o)]) hx hb dL_law_914 hl (k := 6) rfl (by rw [← nad5]; rfl) (by decide) rfl (fun ls hl => ?_)
      refine lv_goto (tgt := 33) hx hb dL_law_917 (by decide) ?_
      refine W.widen (k := 100 + (i + 5)) (n := 1000 + 3 * (i + 5)) (by omega) (by omega) ?_
      exact ih (i + 5) _ _ _ rfl (by omega) (t3.le (by omega)) _ _ _ hPx hPm hD hS (lv_sub hl [3, 4, 5, 6, 0] rfl)
    · skip
      refine lv_aload_n hx hb dL_law_341 rfl (lv_at hl 5 rfl) ?_
      refine lv_iconst (v := 0) hx hb dL_law_342 (by decide) ?_
      refine va_lald hx hb hK hPx 0 1 rfl rfl in01 dL_law_343 ?_
      rw [sb_cl0]
      refine lv_iload hx hb dL_law_344 (lv_at hl 0 rfl) ?_
      refine lv_i2l hx hb dL_law_346 (v := r.toInt64) rfl ?_
      refine W.lcmp hx hb dL_law_347 ?_
      refine lv_if_eq (tgt := 353) hx hb dL_law_348 (by decide) (fun c_348 => ?_) (fun c_348 => ?_)
      · skip
        refine lv_goto (tgt := 914) hx hb dL_law_353 (by decide) ?_
        refine lv_iinc (v := nI (i + 5)) (lv' := [(4, .int (nI (i + 5))), (6, .int r), (5, .int ((f_act u (xs (i + 1)) (xs (i + 2))).1)), (0, .ref b), (1, .ref (a 0)), (2, .ref (am 0)), (3, .ref o)]) hx hb dL_law_914 hl (k := 6) rfl (by rw [← nad5]; rfl) (by decide) rfl (fun ls hl => ?_)
        refine lv_goto (tgt := 33) hx hb dL_law_917 (by decide) ?_
        refine W.widen (k := 100 + (i + 5)) (n := 1000 + 3 * (i + 5)) (by omega) (by omega) ?_
        exact ih (i + 5) _ _ _ rfl (by omega) (t3.le (by omega)) _ _ _ hPx hPm hD hS (lv_sub hl [3, 4, 5, 6, 0] rfl)
      · skip
        exact absurd ((lg_cmp_eq _ _).mpr (show (if (f_act u (xs (i + 1)) (xs (i + 2))).1 = 0 then vp_updL g 0 (f_act u (xs (i + 1)) (xs (i + 2))).2.1 else g) 0 = r.toInt64 from by rw [if_pos c_338, pk_uLs]; exact t2 c_338)) c_348
  · skip
    exact absurd t1 c_331
set_option maxHeartbeats 4000000 in
set_option maxRecDepth 100000 in
theorem law_stop {p : Program} {l : Launch} {e : Env} {s : State} {m : MethodId} {below : List Frame} {meth : Method} {c : Code} (hl9 : l.stackTraces = false) {dC : Nat → ClassId} {dI : Nat → Nat → Nat} {b L : Nat} {xs : Nat → Int32} (hL : L ≤ 2561) (C0 : lw_At p s m meth c b L xs) (hE : EV (fun q : Nat => s.heap.size ≤ q) s s.heap) {c0 cL : ClassId} {a am : Nat → Nat} {o : Nat} (hK : va_K (dC, dI) vwCl [(c0, .int), (cL, .long)] s) {i : Nat} {u : xS} {v : mS} {g : Nat → Int64} (hi : i + 5 ≤ L) (hR : Rel i u v) (ih : ∀ (i2 : Nat) (u : xS) (v : mS) (g : Nat → Int64), i2 = i + 5 → i2 ≤ L → Rel i2 u v → ∀ (H : Heap) (locs : List Loc) (ls : Array Slot), va_P (dC, dI) vwCl (WO c0 cL a o u g) H → va_P (dC, dI) vwCl (wM c0 am v) H → va_D (fun q : Nat => s.heap.size ≤ q) (wM c0 am v ++ WO c0 cL a o u g) → va_S (fun q : Nat => s.heap.size ≤ q) s.heap H locs → lv_has ls 8 [(0, .ref b), (1, .ref (a 0)), (2, .ref (am 0)), (3, .ref o), (4, .int (nI i2))] → W p l e room_1 s m #[Value.ref b] below meth c H locs (100 + i2) (1000 + 3 * i2) (lw_Z below #[Value.ref b] s) (F0 m 33 ls [])) : ∀ (H : Heap) (locs : List Loc) (ls : Array Slot), va_P (dC, dI) vwCl (WO c0 cL a o u g) H → va_P (dC, dI) vwCl (wM c0 am v) H → va_D (fun q : Nat => s.heap.size ≤ q) (wM c0 am v ++ WO c0 cL a o u g) → va_S (fun q : Nat => s.heap.size ≤ q) s.heap H locs → lv_has ls 8 [(0, .ref b), (1, .ref (a 0)), (2, .ref (am 0)), (3, .ref o), (4, .int (nI i))] → W p l e room_1 s m #[Value.ref b] below meth c H locs (100 + i) (1000 + 3 * i) (lw_Z below #[Value.ref b] s) (F0 m 356 ls []) := by
  obtain ⟨hx, hb, hr, hml, hown, -, hX, hbl, hlocks, hgv⟩ := C0
  have hown : s.vm.findClass RL = some m.cls := hown
  have hA : ∀ q : Nat, s.heap.size ≤ q → (fun q : Nat => s.heap.size ≤ q) q := fun _ h => h
  have hbA : ¬ (fun q : Nat => s.heap.size ≤ q) b := Nat.not_le.mpr hbl
  have hts := hE.ts (args := #[Value.ref b])
  obtain ⟨th, n2, wk2, sd2, bt2, lt2, lo2, ct2, rk2, ad2, sp2, gd2, rf2, sm2, js2, sn2, wl2, vl2, bg2, cm2⟩ := v
  obtain ⟨hn2, hct2⟩ := hR.mok
  have hok := hR.ok
  intro H locs ls hPx hPm hD hS hl
  refine lv_aload_n hx hb dL_law_356 rfl (lv_at hl 1 rfl) ?_
  refine lv_aload_n hx hb dL_law_357 rfl (lv_at hl 0 rfl) ?_
  refine lv_iload hx hb dL_law_358 (lv_at hl 4 rfl) ?_
  refine lv_iconst (v := 1) hx hb dL_law_360 (by decide) ?_
  refine lv_iadd hx hb dL_law_361 ?_
  rw [nad1 i]
  refine va_sld hx hb hX hbl hbA hS (vp_in_nI (n := i + 1) (by omega) (by omega)) dL_law_362 ?_
  rw [nI_clamp (n := i + 1) (by omega)]
  refine lv_aload_n hx hb dL_law_363 rfl (lv_at hl 3 rfl) ?_
  have hFx := fre (dr hD) hS hA
  refine va_calli (vx_runSW (As := [.ref (a 0), .int (xs (i + 1)), .ref o]) (rest := []) ⟨hx, hb, hml, hown, hts⟩ (c_L_stop l hl9 dC dI c0 cL o g a _ u hok (xs (i + 1))) (vx_cwSW 3 hts gL_law_L_stop rfl rfl rfl (by decide +kernel) ⟨(Nat.le_of_ble_eq_true rfl), (Nat.le_of_ble_eq_true rfl)⟩) ⟨PW_blind, PW_give hPx hK (dr hD) hE hS hFx⟩ rfl rfl hl.1 rfl (lv_room (Nat.le_of_ble_eq_true rfl)) dL_law_364 ⟨by show 100 + i + 1 ≤ 643794; omega, by show 1000 + 3 * i + 6 ≤ 7164688; omega⟩) hS (fun q _ h => hFx q h) hFx (fun r v9 t H1 locs ht hvm hw hB hz1 hk1 hS => ?_)
  obtain ⟨u9, g9⟩ := v9
  obtain ⟨rfl, hw2, hw3⟩ := hw
  have hw2 : u9 = (f_stop u (xs (i + 1))).2.2 := hw2
  have hw3 : g9 = if (f_stop u (xs (i + 1))).1 = 0 then vp_updL g 0 (f_stop u (xs (i + 1))).2.1 else g := hw3
  subst hw2 hw3
  obtain ⟨hP1, -, hD1⟩ := hB
  rw [ht] at hP1
  obtain ⟨hPm, hD⟩ := jnL (Q := wM c0 am (th, n2, wk2, sd2, bt2, lt2, lo2, ct2, rk2, ad2, sp2, gd2, rf2, sm2, js2, sn2, wl2, vl2, bg2, cm2)) (P := WO c0 cL a o u g) hPm hD hk1 hD1 hFx
  have hPx : va_P (dC, dI) vwCl (WO c0 cL a o (f_stop u (xs (i + 1))).2.2 (if (f_stop u (xs (i + 1))).1 = 0 then vp_updL g 0 (f_stop u (xs (i + 1))).2.1 else g)) H1 := hP1
  generalize H1 = H at hPx hPm hS ⊢
  refine lv_istore (lv' := [(5, .int ((f_stop u (xs (i + 1))).1)), (0, .ref b), (1, .ref (a 0)), (2, .ref (am 0)), (3, .ref o), (4, .int (nI i))]) hx hb dL_law_367 hl (by decide) rfl (fun ls hl => ?_)
  refine lv_aload_n hx hb dL_law_369 rfl (lv_at hl 3 rfl) ?_
  refine lv_aload_n hx hb dL_law_370 rfl (lv_at hl 1 rfl) ?_
  refine lv_iload hx hb dL_law_371 (lv_at hl 5 rfl) ?_
  refine lv_iconst (v := 1) hx hb dL_law_373 (by decide) ?_
  refine lv_iadd hx hb dL_law_374 ?_
  rw [nad1 i]
  refine va_sld hx hb hX hbl hbA hS (vp_in_nI (n := i + 1) (by omega) (by omega)) dL_law_375 ?_
  rw [nI_clamp (n := i + 1) (by omega)]
  have hFm := fre (dl hD) hS hA
  refine va_calli (va_runV (As := [.int (xs (i + 1))]) (rest := []) ⟨hx, hb, hml, hown, hts⟩ (c_M0_stop l dC dI c0 am _ th n2 wk2 sd2 bt2 lt2 lo2 ct2 rk2 ad2 sp2 gd2 rf2 sm2 js2 sn2 wl2 vl2 bg2 cm2 (xs (i + 1)) ) (cwV 1 hts gL_law_M0_stop rfl rfl rfl (by decide +kernel) ⟨(Nat.le_of_ble_eq_true rfl), (Nat.le_of_ble_eq_true rfl)⟩) ⟨PM_blind, va_recv hK hPm (ci := 4) (q0 := 0) rfl rfl, PM_give hPm (hK.sub [0] rfl) (dl hD) hE hS hFm⟩ rfl rfl hl.1 rfl (lv_room (Nat.le_of_ble_eq_true rfl)) dL_law_376 ⟨by show 100 + i + 1 + 0 ≤ 643794; omega, by show 1000 + 3 * i + 6 + 0 ≤ 7164688; omega⟩) hS (fun q _ h => hFm q h) hFm (fun r v2 t H1 locs ht hvm hw hB hz1 hk1 hS => ?_)
  obtain ⟨hP1, -, hD1⟩ := hB
  rw [ht] at hP1
  obtain ⟨hPx, hD⟩ := jnL (Q := WO c0 cL a o (f_stop u (xs (i + 1))).2.2 (if (f_stop u (xs (i + 1))).1 = 0 then vp_updL g 0 (f_stop u (xs (i + 1))).2.1 else g)) (P := wM c0 am (th, n2, wk2, sd2, bt2, lt2, lo2, ct2, rk2, ad2, sp2, gd2, rf2, sm2, js2, sn2, wl2, vl2, bg2, cm2)) hPx (dsw hD) hk1 hD1 hFm
  have hD := dsw hD
  have hPm : va_P (dC, dI) vwCl (wM c0 am v2) H1 := hP1
  generalize H1 = H at hPx hPm hS ⊢
  have h3 := rel_stop hR (by omega) (xs (i + 1))
  rw [hw] at h3
  obtain ⟨t1, t2, t3⟩ := h3
  obtain ⟨th_, n2_, wk2_, sd2_, bt2_, lt2_, lo2_, ct2_, rk2_, ad2_, sp2_, gd2_, rf2_, sm2_, js2_, sn2_, wl2_, vl2_, bg2_, cm2_⟩ := v2
  refine lv_istore (lv' := [(6, .int r), (5, .int ((f_stop u (xs (i + 1))).1)), (0, .ref b), (1, .ref (a 0)), (2, .ref (am 0)), (3, .ref o), (4, .int (nI i))]) hx hb dL_law_379 hl (by decide) rfl (fun ls hl => ?_)
  refine lv_aload_n hx hb dL_law_381 rfl (lv_at hl 4 rfl) ?_
  have hFm := fre (dl hD) hS hA
  refine va_calli (va_runV (As := []) (rest := []) ⟨hx, hb, hml, hown, hts⟩ (c_M0_thrown l dC dI c0 am _ th_ n2_ wk2_ sd2_ bt2_ lt2_ lo2_ ct2_ rk2_ ad2_ sp2_ gd2_ rf2_ sm2_ js2_ sn2_ wl2_ vl2_ bg2_ cm2_) (cwV 0 hts gL_law_M0_thrown rfl rfl rfl (by decide +kernel) ⟨(Nat.le_of_ble_eq_true rfl), (Nat.le_of_ble_eq_true rfl)⟩) ⟨PM_blind, va_recv hK hPm (ci := 4) (q0 := 0) rfl rfl, PM_give hPm (hK.sub [0] rfl) (dl hD) hE hS hFm⟩ rfl rfl hl.1 rfl (lv_room (Nat.le_of_ble_eq_true rfl)) dL_law_382 ⟨by show 100 + i + 1 + 0 + 0 ≤ 643794; omega, by show 1000 + 3 * i + 6 + 0 + 0 ≤ 7164688; omega⟩) hS (fun q _ h => hFm q h) hFm (fun r9 v3 t H1 locs ht hvm hw hB hz1 hk1 hS => ?_)
  obtain ⟨rfl, e9⟩ := hw
  have e9 := e9.symm
  subst e9
  obtain ⟨hP1, -, hD1⟩ := hB
  rw [ht] at hP1
  obtain ⟨hPx, hD⟩ := jnL (Q := WO c0 cL a o (f_stop u (xs (i + 1))).2.2 (if (f_stop u (xs (i + 1))).1 = 0 then vp_updL g 0 (f_stop u (xs (i + 1))).2.1 else g)) (P := wM c0 am (th_, n2_, wk2_, sd2_, bt2_, lt2_, lo2_, ct2_, rk2_, ad2_, sp2_, gd2_, rf2_, sm2_, js2_, sn2_, wl2_, vl2_, bg2_, cm2_)) hPx (dsw hD) hk1 hD1 hFm
  have hD := dsw hD
  have hPm : va_P (dC, dI) vwCl (wM c0 am (th_, n2_, wk2_, sd2_, bt2_, lt2_, lo2_, ct2_, rk2_, ad2_, sp2_, gd2_, rf2_, sm2_, js2_, sn2_, wl2_, vl2_, bg2_, cm2_)) H1 := hP1
  generalize H1 = H at hPx hPm hS ⊢
  refine lv_iload hx hb dL_law_385 (lv_at hl 1 rfl) ?_
  refine lv_icmp_eq (tgt := 392) hx hb dL_law_387 (by decide) (fun c_387 => ?_) (fun c_387 => ?_)
  · skip
    refine lv_iload hx hb dL_law_392 (lv_at hl 1 rfl) ?_
    refine lv_if_ne (tgt := 409) hx hb dL_law_394 (by decide) (fun c_394 => ?_) (fun c_394 => ?_)
    · skip
      refine lv_goto (tgt := 914) hx hb dL_law_409 (by decide) ?_
      refine lv_iinc (v := nI (i + 5)) (lv' := [(4, .int (nI (i + 5))), (6, .int r), (5, .int ((f_stop u (xs (i + 1))).1)), (0, .ref b), (1, .ref (a 0)), (2, .ref (am 0)), (3, .ref o)]) hx hb dL_law_914 hl (k := 6) rfl (by rw [← nad5]; rfl) (by decide) rfl (fun ls hl => ?_)
      refine lv_goto (tgt := 33) hx hb dL_law_917 (by decide) ?_
      refine W.widen (k := 100 + (i + 5)) (n := 1000 + 3 * (i + 5)) (by omega) (by omega) ?_
      exact ih (i + 5) _ _ _ rfl (by omega) (t3.le (by omega)) _ _ _ hPx hPm hD hS (lv_sub hl [3, 4, 5, 6, 0] rfl)
    · skip
      refine lv_aload_n hx hb dL_law_397 rfl (lv_at hl 5 rfl) ?_
      refine lv_iconst (v := 0) hx hb dL_law_398 (by decide) ?_
      refine va_lald hx hb hK hPx 0 1 rfl rfl in01 dL_law_399 ?_
      rw [sb_cl0]
      refine lv_iload hx hb dL_law_400 (lv_at hl 0 rfl) ?_
      refine lv_i2l hx hb dL_law_402 (v := r.toInt64) rfl ?_
      refine W.lcmp hx hb dL_law_403 ?_
      refine lv_if_eq (tgt := 409) hx hb dL_law_404 (by decide) (fun c_404 => ?_) (fun c_404 => ?_)
      · skip
        refine lv_goto (tgt := 914) hx hb dL_law_409 (by decide) ?_
        refine lv_iinc (v := nI (i + 5)) (lv' := [(4, .int (nI (i + 5))), (6, .int r), (5, .int ((f_stop u (xs (i + 1))).1)), (0, .ref b), (1, .ref (a 0)), (2, .ref (am 0)), (3, .ref o)]) hx hb dL_law_914 hl (k := 6) rfl (by rw [← nad5]; rfl) (by decide) rfl (fun ls hl => ?_)
        refine lv_goto (tgt := 33) hx hb dL_law_917 (by decide) ?_
        refine W.widen (k := 100 + (i + 5)) (n := 1000 + 3 * (i + 5)) (by omega) (by omega) ?_
        exact ih (i + 5) _ _ _ rfl (by omega) (t3.le (by omega)) _ _ _ hPx hPm hD hS (lv_sub hl [3, 4, 5, 6, 0] rfl)
      · skip
        exact absurd ((lg_cmp_eq _ _).mpr (show (if (f_stop u (xs (i + 1))).1 = 0 then vp_updL g 0 (f_stop u (xs (i + 1))).2.1 else g) 0 = r.toInt64 from by rw [if_pos c_394, pk_uLs]; exact t2 c_394)) c_404
  · skip
    exact absurd t1 c_387
