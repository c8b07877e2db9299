set_option maxHeartbeats 4000000 in
set_option maxRecDepth 100000 in
/-- the law's loop -/
theorem law_loop {p : Program} {l : Launch} {e : Env} {s : State} {m : MethodId} {below : List Frame} {meth : Method} {c : Code} (hl9 : l.stackTraces = false) {dC : Nat → ClassId} {dI : Nat → Nat → Nat} {b L : Nat} {xs : Nat → Int32} (hL : L ≤ 2561) (C0 : lw_At p s m meth c b L xs) (hE : EV (fun q : Nat => s.heap.size ≤ q) s s.heap) {c0 cL : ClassId} {a am : Nat → Nat} {o : Nat} (hK : va_K (dC, dI) vwCl [(c0, .int), (cL, .long)] s) : ∀ (fu i : Nat) (u : xS) (v : mS) (g : Nat → Int64), 2600 ≤ i + 5 * fu → i ≤ 2566 → Rel i u v → ∀ (H : Heap) (locs : List Loc) (ls : Array Slot), va_P (dC, dI) vwCl (WO c0 cL a o u g) H → va_P (dC, dI) vwCl (wM c0 am v) H → va_D (fun q : Nat => s.heap.size ≤ q) (wM c0 am v ++ WO c0 cL a o u g) → va_S (fun q : Nat => s.heap.size ≤ q) s.heap H locs → lv_has ls 8 [(0, .ref b), (1, .ref (a 0)), (2, .ref (am 0)), (3, .ref o), (4, .int (nI i))] → W p l e room_1 s m #[Value.ref b] below meth c H locs (100 + i) (1000 + 3 * i) (lw_Z below #[Value.ref b] s) (F0 m 33 ls []) := by
  have C1 := C0
  obtain ⟨hx, hb, hr, hml, hown, -, hX, hbl, hlocks, hgv⟩ := C0
  have hown : s.vm.findClass RL = some m.cls := hown
  have hA : ∀ q : Nat, s.heap.size ≤ q → (fun q : Nat => s.heap.size ≤ q) q := fun _ h => h
  have hbA : ¬ (fun q : Nat => s.heap.size ≤ q) b := Nat.not_le.mpr hbl
  have hts := hE.ts (args := #[Value.ref b])
  intro fu
  induction fu with
  | zero =>
    intro i u v g h1 h2
    exact absurd h1 (by omega)
  | succ fu ih =>
    intro i u v g h1 h2 hR H locs ls hPx hPm hD hS hl
    refine lv_iload hx hb dL_law_33 (lv_at hl 4 rfl) ?_
    refine lv_aload_n hx hb dL_law_35 rfl (lv_at hl 0 rfl) ?_
    refine va_slen hx hb hX hbl hbA hS dL_law_36 ?_
    refine lv_iconst (v := 5) hx hb dL_law_37 (by decide) ?_
    refine lv_isub hx hb dL_law_38 ?_
    refine lv_icmp_gt (tgt := 920) hx hb dL_law_39 (by decide) (fun c_39 => ?_) (fun c_39 => ?_)
    · refine lv_iconst (v := 1) hx hb dL_law_920 (by decide) ?_
      refine va_forget (fun q hq => hS.2.2 q hq) ?_
      refine W.widen (k := 643794) (n := 7164688) (by omega) (by omega) ?_
      exact lw_ret hx hb hr hlocks dL_law_921
    · have hi := ll hL (by omega) c_39
      refine lv_aload_n hx hb dL_law_42 rfl (lv_at hl 0 rfl) ?_
      refine lv_iload hx hb dL_law_43 (lv_at hl 4 rfl) ?_
      refine va_sld hx hb hX hbl hbA hS (vp_in_nI (n := i) (by omega) (by omega)) dL_law_45 ?_
      rw [nI_clamp (n := i) (by omega)]
      refine lv_bipush (v := 15) hx hb dL_law_46 (by decide) ?_
      refine lv_iand hx hb dL_law_48 ?_
      have ih2 : ∀ (i2 : Nat) (u : xS) (v : mS) (g : Nat → Int64), i2 = i + 5 → i2 ≤ L → Rel i2 u v → ∀ (H : Heap) (locs : List Loc) (ls : Array Slot), va_P (dC, dI) vwCl (WO c0 cL a o u g) H → va_P (dC, dI) vwCl (wM c0 am v) H → va_D (fun q : Nat => s.heap.size ≤ q) (wM c0 am v ++ WO c0 cL a o u g) → va_S (fun q : Nat => s.heap.size ≤ q) s.heap H locs → lv_has ls 8 [(0, .ref b), (1, .ref (a 0)), (2, .ref (am 0)), (3, .ref o), (4, .int (nI i2))] → W p l e room_1 s m #[Value.ref b] below meth c H locs (100 + i2) (1000 + 3 * i2) (lw_Z below #[Value.ref b] s) (F0 m 33 ls []) := fun i2 u v g q1 q2 q3 => ih i2 u v g (by omega) (by omega) q3
      by_cases hlo : (xs i &&& 15).toInt < 0 ∨ 12 < (xs i &&& 15).toInt
      · refine lv_tableOut (tgt := 914) hx hb dL_law_49 hlo (by decide) ?_
        refine lv_iinc (v := nI (i + 5)) (lv' := [(4, .int (nI (i + 5))), (0, .ref b), (1, .ref (a 0)), (2, .ref (am 0)), (3, .ref o)]) hx hb dL_law_914 hl (k := 4) rfl (by rw [← nad5]; rfl) (by decide) rfl (fun ls hl => ?_)
        refine lv_goto (tgt := 33) hx hb dL_law_917 (by decide) ?_
        refine W.widen (k := 100 + (i + 5)) (n := 1000 + 3 * (i + 5)) (by omega) (by omega) ?_
        exact ih2 (i + 5) _ _ _ rfl (by omega) (hR.le (by omega)) _ _ _ hPx hPm hD hS (lv_sub hl [1, 2, 3, 4, 0] rfl)
      · rcases sw13 _ hlo with hv | hv | hv | hv | hv | hv | hv | hv | hv | hv | hv | hv | hv
        · refine lv_tableIn (tgt := 116) (off := 67) hx hb dL_law_49 (by rw [hv]; decide) (by rw [hv]; decide) (by rw [hv]; rfl) (by decide) ?_
          exact law_share hl9 hL C1 hE hK hi hR ih2 _ _ _ hPx hPm hD hS hl
        · refine lv_tableIn (tgt := 208) (off := 159) hx hb dL_law_49 (by rw [hv]; decide) (by rw [hv]; decide) (by rw [hv]; rfl) (by decide) ?_
          exact law_fails hl9 hL C1 hE hK hi hR ih2 _ _ _ hPx hPm hD hS hl
        · refine lv_tableIn (tgt := 288) (off := 239) hx hb dL_law_49 (by rw [hv]; decide) (by rw [hv]; decide) (by rw [hv]; rfl) (by decide) ?_
          exact law_act hl9 hL C1 hE hK hi hR ih2 _ _ _ hPx hPm hD hS hl
        · refine lv_tableIn (tgt := 356) (off := 307) hx hb dL_law_49 (by rw [hv]; decide) (by rw [hv]; decide) (by rw [hv]; rfl) (by decide) ?_
          exact law_stop hl9 hL C1 hE hK hi hR ih2 _ _ _ hPx hPm hD hS hl
        · refine lv_tableIn (tgt := 412) (off := 363) hx hb dL_law_49 (by rw [hv]; decide) (by rw [hv]; decide) (by rw [hv]; rfl) (by decide) ?_
          exact law_run hl9 hL C1 hE hK hi hR ih2 _ _ _ hPx hPm hD hS hl
        · refine lv_tableIn (tgt := 480) (off := 431) hx hb dL_law_49 (by rw [hv]; decide) (by rw [hv]; decide) (by rw [hv]; rfl) (by decide) ?_
          exact law_joined hl9 hL C1 hE hK hi hR ih2 _ _ _ hPx hPm hD hS hl
        · refine lv_tableIn (tgt := 523) (off := 474) hx hb dL_law_49 (by rw [hv]; decide) (by rw [hv]; decide) (by rw [hv]; rfl) (by decide) ?_
          exact law_many hl9 hL C1 hE hK hi hR ih2 _ _ _ hPx hPm hD hS hl
        · refine lv_tableIn (tgt := 567) (off := 518) hx hb dL_law_49 (by rw [hv]; decide) (by rw [hv]; decide) (by rw [hv]; rfl) (by decide) ?_
          exact law_value hl9 hL C1 hE hK hi hR ih2 _ _ _ hPx hPm hD hS hl
        · refine lv_tableIn (tgt := 623) (off := 574) hx hb dL_law_49 (by rw [hv]; decide) (by rw [hv]; decide) (by rw [hv]; rfl) (by decide) ?_
          exact law_chain hl9 hL C1 hE hK hi hR ih2 _ _ _ hPx hPm hD hS hl
        · refine lv_tableIn (tgt := 690) (off := 641) hx hb dL_law_49 (by rw [hv]; decide) (by rw [hv]; decide) (by rw [hv]; rfl) (by decide) ?_
          exact law_came hl9 hL C1 hE hK hi hR ih2 _ _ _ hPx hPm hD hS hl
        · refine lv_tableIn (tgt := 746) (off := 697) hx hb dL_law_49 (by rw [hv]; decide) (by rw [hv]; decide) (by rw [hv]; rfl) (by decide) ?_
          exact law_begun hl9 hL C1 hE hK hi hR ih2 _ _ _ hPx hPm hD hS hl
        · refine lv_tableIn (tgt := 802) (off := 753) hx hb dL_law_49 (by rw [hv]; decide) (by rw [hv]; decide) (by rw [hv]; rfl) (by decide) ?_
          exact law_steps hl9 hL C1 hE hK hi hR ih2 _ _ _ hPx hPm hD hS hl
        · refine lv_tableIn (tgt := 858) (off := 809) hx hb dL_law_49 (by rw [hv]; decide) (by rw [hv]; decide) (by rw [hv]; rfl) (by decide) ?_
          exact law_count hl9 hL C1 hE hK hi hR ih2 _ _ _ hPx hPm hD hS hl
