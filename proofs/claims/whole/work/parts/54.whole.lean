set_option maxHeartbeats 4000000 in
set_option maxRecDepth 100000 in
/-- THE LAW, from its entry -/
theorem whole_start {p : Program} {e : Env} {s : State} {m : MethodId} {below : List Frame} {meth : Method} {c : Code} (l : Launch) (hl9 : l.stackTraces = false) {b L : Nat} {xs : Nat → Int32} (hL : L ≤ 2561) (C0 : lw_At p s m meth c b L xs) : W p l e room_1 s m #[Value.ref b] below meth c s.heap [] 0 0 (lw_Z below #[Value.ref b] s) (entryFrame m ([Value.ref b] : List Value).toArray 8) := by
  obtain ⟨hx, hb, hr, hml, hown, hts0, hX, hbl, hlocks, hgv⟩ := id C0
  have hown : s.vm.findClass RL = some m.cls := hown
  have hA : ∀ q : Nat, s.heap.size ≤ q → (fun q : Nat => s.heap.size ≤ q) q := fun _ h => h
  have hbA : ¬ (fun q : Nat => s.heap.size ≤ q) b := Nat.not_le.mpr hbl
  obtain ⟨d0, iS0, k0⟩ := u_known (C := RX0) (T := TX0) (N := 6) (n := 6) hts0 inX0_t (hts0 _ m_35)
  obtain ⟨d1, iS1, k1⟩ := u_known (C := RX1) (T := TX1) (N := 6) (n := 6) hts0 inX1_t (hts0 _ m_49)
  obtain ⟨d2, iS2, k2⟩ := u_known (C := RX2) (T := TX2) (N := 3) (n := 3) hts0 inX2_t (hts0 _ m_86)
  obtain ⟨d3, iS3, k3⟩ := u_known (C := RX3) (T := TX3) (N := 8) (n := 8) hts0 inX3_t (hts0 _ m_106)
  obtain ⟨d4, iS4, k4⟩ := u_known (C := RM0) (T := TM0) (N := 20) (n := 20) hts0 inM0_t (hts0 _ m_422)
  obtain ⟨dC, dI, hKc⟩ : ∃ (dC : Nat → ClassId) (dI : Nat → Nat → Nat), ∀ (k : Nat) (q : vw_C), vwCl[k]? = some q → u_Kn s q.1 q.2.1 q.2.2 (dC k) (dI k) := by
    refine ⟨fun k => if k = 0 then d0 else if k = 1 then d1 else if k = 2 then d2 else if k = 3 then d3 else d4, fun k => if k = 0 then iS0 else if k = 1 then iS1 else if k = 2 then iS2 else if k = 3 then iS3 else iS4, ?_⟩
    intro k q hq
    match k, hq with
    | 0, hq => cases hq; exact k0
    | 1, hq => cases hq; exact k1
    | 2, hq => cases hq; exact k2
    | 3, hq => cases hq; exact k3
    | 4, hq => cases hq; exact k4
    | k + 5, hq => simp [vwCl] at hq
  have hE := ev0 hts0 hgv k0.2.1
  have hts := hE.ts (args := #[Value.ref b])
  have hS : va_S (fun q : Nat => s.heap.size ≤ q) s.heap s.heap [] := va_S.rf
  have hK : va_K (dC, dI) vwCl [] s := ⟨hKc, fun k q h => by simp at h⟩
  have hP : va_P (dC, dI) vwCl [] s.heap := fun k q h => by simp at h
  have hD : va_D (fun q : Nat => s.heap.size ≤ q) [] := ⟨fun i j p q h => by simp at h, fun k q h => by simp at h⟩
  have hl := lv_entry ([.ref b]) (n := 8) (Nat.le_of_ble_eq_true rfl)
  rw [lg_entry_eq]
  generalize (lg_sl ([.ref b]) ++ List.replicate (8 - (lg_sl ([.ref b])).length) Slot.unset).toArray = ls at hl ⊢
  have hl : lv_has ls 8 [(0, .ref b)] := hl
  refine va_new (ci := 0) (fs := [.null, .null, .null, .int 0, .int 0, .int 0]) (C := RX0) (T := TX0) (N := 6) hx hb hts inX0 tyX0 tyX0_ok hown (hE.t m_34 rfl) (hE.t m_35 rfl) (hE.t m_21 rfl) hK hP hD hS hA rfl (fun j hj => by match j, hj with | 0, _ => rfl | 1, _ => rfl | 2, _ => rfl | 3, _ => rfl | 4, _ => rfl | 5, _ => rfl | j + 6, hj => exact absurd hj (by omega)) (by show 0 + 1 ≤ 643794; omega) (by show 0 + 6 ≤ 7164688; omega) dL_law_0 (fun q0 H hP hD hS => ?_)
  refine W.widen (k := 1) (n := 6) (by omega) (by omega) ?_
  have hP : va_P (dC, dI) vwCl [(q0, .inr (0, [.null, .null, .null, .int 0, .int 0, .int 0]))] H := hP
  have hD : va_D (fun q : Nat => s.heap.size ≤ q) [(q0, .inr (0, [.null, .null, .null, .int 0, .int 0, .int 0]))] := hD
  refine lv_dup hx hb dL_law_3 rfl ?_
  refine lv_aload_n hx hb dL_law_4 rfl (lv_at hl 0 rfl) ?_
  refine lv_iconst (v := 0) hx hb dL_law_5 (by decide) ?_
  have hFc : ∀ q : Nat, H.size ≤ q → (fun q : Nat => s.heap.size ≤ q) q := fun q h => Nat.le_trans hS.1 h
  refine va_calli (va_runS (As := [.ref b, .int 0]) (rest := [.ref q0, .ref q0]) ⟨hx, hb, hml, hown, hts⟩ (c_L_cell l b L _ xs (Nat.lt_of_lt_of_le hbl hS.1) hL) (va_cwS 2 hts gL_law_L_cell rfl rfl rfl (by decide +kernel) ⟨(Nat.le_of_ble_eq_true rfl), (Nat.le_of_ble_eq_true rfl)⟩) ⟨x_blind, fun U hU hW => ⟨rfl, by rw [hU], by rw [hU]; exact va_X.moved hW.alike (hX.kept (hS.2.1 b hbl hbA))⟩⟩ rfl rfl hl.1 rfl (lv_room (Nat.le_of_ble_eq_true rfl)) dL_law_6 ⟨by show 1 + 0 ≤ 643794; omega, by show 6 + 0 ≤ 7164688; omega⟩) hS (fun q _ h => hFc q h) hFc (fun r u t H1 locs ht hvm hw hB hz1 hk1 hS => ?_)
  have hP := hP.kept (fun k q hq => hk1 q.1 (hP k q hq).lt (Nat.not_le.mpr (hP k q hq).lt))
  generalize H1 = H at hP hS ⊢
  subst hw
  have hFc := fre hD hS hA
  have hPc := hP
  have hDc := hD
  have hPc : va_P (dC, dI) vwCl [(q0, .inr (0, [.null, .null, .null, .int 0, .int 0, .int 0]))] H := hPc
  have hDc : va_D (fun q : Nat => s.heap.size ≤ q) [(q0, .inr (0, [.null, .null, .null, .int 0, .int 0, .int 0]))] := hDc
  refine va_callv (va_runI (As := [.int (if L = 0 then 0 else xs 0)]) (rest := [.ref q0]) ⟨hx, hb, hml, hown, hts⟩ (c_X0_init l dC dI q0 _ (if L = 0 then 0 else xs 0)) (cwI 1 hts gL_law_X0_init rfl rfl rfl (hE.t m_21 rfl) (hE.t m_36 rfl) (hE.t m_37 rfl) rfl (by decide +kernel) ⟨(Nat.le_of_ble_eq_true rfl), (Nat.le_of_ble_eq_true rfl)⟩) ⟨ev_blind, ev_give hPc hK hDc hE hS hFc⟩ rfl rfl hl.1 rfl (lv_room (Nat.le_of_ble_eq_true rfl)) dL_law_9 ⟨by show 1 + 13 ≤ 643794; omega, by show 6 + 369 ≤ 7164688; omega⟩) hS (fun q _ h => hFc q h) hFc (fun u t H1 locs ht hvm hw hB hz1 hk1 hS => ?_)
  obtain ⟨c0, a⟩ := u
  have hw : a 0 = q0 := hw
  subst hw
  obtain ⟨hP1, hK1, hD1⟩ := hB
  rw [ht] at hP1
  have hK : va_K (dC, dI) vwCl [(c0, .int)] s := va_K.moved hvm.symm hK1
  have hP : va_P (dC, dI) vwCl (wX c0 a (x0 (szN (if L = 0 then 0 else xs 0)))) H1 := hP1
  have hD : va_D (fun q : Nat => s.heap.size ≤ q) (wX c0 a (x0 (szN (if L = 0 then 0 else xs 0)))) := hD1.weaken (fun _ q _ h => hFc q.1 h)
  generalize H1 = H at hP hS ⊢
  refine lv_astore_n (lv' := [(1, .ref (a 0)), (0, .ref b)]) hx hb dL_law_12 rfl hl (by decide) rfl (fun ls hl => ?_)
  refine va_new (ci := 4) (fs := [.int 0, .int 0, .null, .null, .null, .null, .null, .int 0, .null, .null, .int 0, .int 0, .int 0, .long 0, .int 0, .int 0, .int 0, .null, .null, .null]) (C := RM0) (T := TM0) (N := 20) hx hb hts inM0 tyM0 tyM0_ok hown (hE.t m_421 rfl) (hE.t m_422 rfl) (hE.t m_27 rfl) hK hP hD hS hA rfl (fun j hj => by match j, hj with | 0, _ => rfl | 1, _ => rfl | 2, _ => rfl | 3, _ => rfl | 4, _ => rfl | 5, _ => rfl | 6, _ => rfl | 7, _ => rfl | 8, _ => rfl | 9, _ => rfl | 10, _ => rfl | 11, _ => rfl | 12, _ => rfl | 13, _ => rfl | 14, _ => rfl | 15, _ => rfl | 16, _ => rfl | 17, _ => rfl | 18, _ => rfl | 19, _ => rfl | j + 20, hj => exact absurd hj (by omega)) (by show 14 + 1 ≤ 643794; omega) (by show 375 + 20 ≤ 7164688; omega) dL_law_13 (fun q1 H hP hD hS => ?_)
  refine W.widen (k := 15) (n := 395) (by omega) (by omega) ?_
  have hP : va_P (dC, dI) vwCl (wX c0 a (x0 (szN (if L = 0 then 0 else xs 0))) ++ [(q1, .inr (4, [.int 0, .int 0, .null, .null, .null, .null, .null, .int 0, .null, .null, .int 0, .int 0, .int 0, .long 0, .int 0, .int 0, .int 0, .null, .null, .null]))]) H := hP
  have hD : va_D (fun q : Nat => s.heap.size ≤ q) (wX c0 a (x0 (szN (if L = 0 then 0 else xs 0))) ++ [(q1, .inr (4, [.int 0, .int 0, .null, .null, .null, .null, .null, .int 0, .null, .null, .int 0, .int 0, .int 0, .long 0, .int 0, .int 0, .int 0, .null, .null, .null]))]) := hD
  refine lv_dup hx hb dL_law_16 rfl ?_
  refine lv_aload_n hx hb dL_law_17 rfl (lv_at hl 1 rfl) ?_
  refine lv_iconst (v := 0) hx hb dL_law_18 (by decide) ?_
  have hFc : ∀ q : Nat, H.size ≤ q → (fun q : Nat => s.heap.size ≤ q) q := fun q h => Nat.le_trans hS.1 h
  refine va_calli (va_runS (As := [.ref b, .int 0]) (rest := [.ref q1, .ref q1]) ⟨hx, hb, hml, hown, hts⟩ (c_L_cell l b L _ xs (Nat.lt_of_lt_of_le hbl hS.1) hL) (va_cwS 2 hts gL_law_L_cell rfl rfl rfl (by decide +kernel) ⟨(Nat.le_of_ble_eq_true rfl), (Nat.le_of_ble_eq_true rfl)⟩) ⟨x_blind, fun U hU hW => ⟨rfl, by rw [hU], by rw [hU]; exact va_X.moved hW.alike (hX.kept (hS.2.1 b hbl hbA))⟩⟩ rfl rfl hl.1 rfl (lv_room (Nat.le_of_ble_eq_true rfl)) dL_law_19 ⟨by show 15 + 0 ≤ 643794; omega, by show 395 + 0 ≤ 7164688; omega⟩) hS (fun q _ h => hFc q h) hFc (fun r u t H1 locs ht hvm hw hB hz1 hk1 hS => ?_)
  have hP := hP.kept (fun k q hq => hk1 q.1 (hP k q hq).lt (Nat.not_le.mpr (hP k q hq).lt))
  generalize H1 = H at hP hS ⊢
  subst hw
  have hFc := fre (dr hD) hS hA
  have hPc := pr hP
  have hDc := dr hD
  have hPc : va_P (dC, dI) vwCl [(q1, .inr (4, [.int 0, .int 0, .null, .null, .null, .null, .null, .int 0, .null, .null, .int 0, .int 0, .int 0, .long 0, .int 0, .int 0, .int 0, .null, .null, .null]))] H := hPc
  have hDc : va_D (fun q : Nat => s.heap.size ≤ q) [(q1, .inr (4, [.int 0, .int 0, .null, .null, .null, .null, .null, .int 0, .null, .null, .int 0, .int 0, .int 0, .long 0, .int 0, .int 0, .int 0, .null, .null, .null]))] := hDc
  refine va_callv (va_runI (As := [.int (if L = 0 then 0 else xs 0)]) (rest := [.ref q1]) ⟨hx, hb, hml, hown, hts⟩ (c_M0_init l dC dI q1 _ (if L = 0 then 0 else xs 0)) (cwI 1 hts gL_law_M0_init rfl rfl rfl (hE.t m_27 rfl) (hE.t m_423 rfl) (hE.t m_424 rfl) rfl (by decide +kernel) ⟨(Nat.le_of_ble_eq_true rfl), (Nat.le_of_ble_eq_true rfl)⟩) ⟨ev_blind, ev_give hPc hK hDc hE hS hFc⟩ rfl rfl hl.1 rfl (lv_room (Nat.le_of_ble_eq_true rfl)) dL_law_22 ⟨by show 15 + 10 ≤ 643794; omega, by show 395 + 352 ≤ 7164688; omega⟩) hS (fun q _ h => hFc q h) hFc (fun u t H1 locs ht hvm hw hB hz1 hk1 hS => ?_)
  obtain ⟨c1, am⟩ := u
  have hw : am 0 = q1 := hw
  subst hw
  obtain ⟨hP1, hK1, hD1⟩ := hB
  rw [ht] at hP1
  have hK2 := hK.app (va_K.moved hvm.symm hK1)
  have h9 : c0 = c1 := cls_eq hK2 0 1 rfl rfl
  subst h9
  obtain ⟨hPx, hD⟩ := jnL (Q := wX c0 a (x0 (szN (if L = 0 then 0 else xs 0)))) (P := [((am 0), .inr (4, [.int 0, .int 0, .null, .null, .null, .null, .null, .int 0, .null, .null, .int 0, .int 0, .int 0, .long 0, .int 0, .int 0, .int 0, .null, .null, .null]))]) (pl hP) hD hk1 hD1 hFc
  have hPm : va_P (dC, dI) vwCl (wM c0 am (m0 (szN (if L = 0 then 0 else xs 0)))) H1 := hP1
  have hD : va_D (fun q : Nat => s.heap.size ≤ q) (wX c0 a (x0 (szN (if L = 0 then 0 else xs 0))) ++ wM c0 am (m0 (szN (if L = 0 then 0 else xs 0)))) := hD
  generalize H1 = H at hPx hPm hS ⊢
  have hP := hPx.app hPm
  refine lv_astore_n (lv' := [(2, .ref (am 0)), (1, .ref (a 0)), (0, .ref b)]) hx hb dL_law_25 rfl hl (by decide) rfl (fun ls hl => ?_)
  refine lv_iconst (v := 1) hx hb dL_law_26 (by decide) ?_
  refine va_newa (atype := .long) (ty := .long) (n := 1) (N' := 1) (a0 := (1, .inr (.inl (fun _ => 0)))) hx hb (hE.t m_584 rfl) rfl hK hP hD hS hA (ha1 1) (by decide) (by decide) (by show 1 * 8 ≤ 536870912; omega) (by show 25 + 1 ≤ 643794; omega) (by show 747 + 1 ≤ 7164688; omega) dL_law_27 (fun o cL H hK hP hD hS => ?_)
  have hK : va_K (dC, dI) vwCl [(c0, .int), (cL, .long)] s := hK
  have hPo := pr hP
  have hPm := pr (pl hP)
  have hPx : va_P (dC, dI) vwCl (WO c0 cL a o (x0 (szN (if L = 0 then 0 else xs 0))) (fun _ => 0)) H := hPo.app (pl (pl hP))
  have hD2 := dsw hD
  have hD : va_D (fun q : Nat => s.heap.size ≤ q) ((WO c0 cL a o (x0 (szN (if L = 0 then 0 else xs 0))) (fun _ => 0)) ++ wM c0 am (m0 (szN (if L = 0 then 0 else xs 0)))) := hD2
  have hD := dsw hD
  refine lv_astore_n (lv' := [(3, .ref o), (2, .ref (am 0)), (1, .ref (a 0)), (0, .ref b)]) hx hb dL_law_29 rfl hl (by decide) rfl (fun ls hl => ?_)
  refine lv_iconst (v := 1) hx hb dL_law_30 (by decide) ?_
  refine lv_istore (lv' := [(4, .int 1), (3, .ref o), (2, .ref (am 0)), (1, .ref (a 0)), (0, .ref b)]) hx hb dL_law_31 hl (by decide) rfl (fun ls hl => ?_)
  refine W.widen (k := 100 + 1) (n := 1000 + 3 * 1) (by omega) (by omega) ?_
  exact law_loop hl9 hL C0 hE hK 520 1 _ _ _ (by omega) (by omega) (rel0 (szN_in _).2.1 (szN_in _).2.2) _ _ _ hPx hPm hD hS (lv_sub hl [4, 3, 2, 1, 0] rfl)
