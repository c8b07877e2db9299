set_option maxHeartbeats 4000000 in
set_option maxRecDepth 100000 in
/-- Shares(n) -/
theorem c_X1_init (l : Launch) (dC : Nat → ClassId) (dI : Nat → Nat → Nat) (q : Nat) (sz : Nat) (n : Nat) (hn : n ≤ 40) : Met l yX1_init wsX1_init ({ frames := 1, cells := 5, slots := 200, locals := 40 }) (va_Pc [.ref q, .int (nI n)] (PJ dC dI [(q, .inr (1, [.int 0, .null, .null, .null, .null, .null]))] sz)) (va_Qv (fun (u : ClassId × Nat × Nat × Nat × Nat × Nat) => True) (fun (u : ClassId × Nat × Nat × Nat × Nat × Nat) t => va_P (dC, dI) vwCl [(q, .inr (1, [.int (nI n), .ref u.2.1, .ref u.2.2.1, .ref u.2.2.2.1, .ref u.2.2.2.2.1, .ref u.2.2.2.2.2])), (u.2.1, .inl (u.1, n, .inl (fil (fun _ => 1) (fun _ => 0) n))), (u.2.2.1, .inl (u.1, n, .inl (fun _ => 0))), (u.2.2.2.1, .inl (u.1, n, .inl (fun _ => 0))), (u.2.2.2.2.1, .inl (u.1, n, .inl (fil (fun _ => 1) (fun _ => 0) n))), (u.2.2.2.2.2, .inl (u.1, n, .inl (fun _ => 0)))] t.heap ∧ va_K (dC, dI) vwCl [(u.1, .int)] t ∧ va_D (va_A [(q, .inr (1, [.int 0, .null, .null, .null, .null, .null]))] sz) [(q, .inr (1, [.int (nI n), .ref u.2.1, .ref u.2.2.1, .ref u.2.2.2.1, .ref u.2.2.2.2.1, .ref u.2.2.2.2.2])), (u.2.1, .inl (u.1, n, .inl (fil (fun _ => 1) (fun _ => 0) n))), (u.2.2.1, .inl (u.1, n, .inl (fun _ => 0))), (u.2.2.2.1, .inl (u.1, n, .inl (fun _ => 0))), (u.2.2.2.2.1, .inl (u.1, n, .inl (fil (fun _ => 1) (fun _ => 0) n))), (u.2.2.2.2.2, .inl (u.1, n, .inl (fun _ => 0)))]) (va_A [(q, .inr (1, [.int 0, .null, .null, .null, .null, .null]))] sz)) 5 200 (va_A [(q, .inr (1, [.int 0, .null, .null, .null, .null, .null]))] sz) := by
  refine Met.ofW (cc := cX1_init) (maxL := 2) (ret := none) (by decide) rfl ?_
  intro p e s m args below meth c s₁ B hml hv
  obtain ⟨rfl, hsz, hP, hK, hD0, hE⟩ := hv
  have hx := B.exec
  have hb := B.bytes
  have hr := B.returns
  have hown : s.vm.findClass RX1 = some m.cls := findClass_of_methodNamed B.named
  have hlocks := B.notSynchronized
  have hin : meth.name = "<init>" := (name_of_methodNamed B.named B.method).1
  subst hsz
  have hD := hD0.self (sz := s.heap.size)
  generalize hAe : va_A [(q, .inr (1, [.int 0, .null, .null, .null, .null, .null]))] s.heap.size = A at hD hE ⊢
  have hts := hE.ts (args := ([.ref q, .int (nI n)] : List Value).toArray)
  have hA : ∀ q : Nat, s.heap.size ≤ q → A q := fun q h => by rw [← hAe]; exact Or.inr h
  have hS : va_S A s.heap s.heap [] := va_S.rf
  have hP : va_P (dC, dI) vwCl ([(q, .inr (1, [.int 0, .null, .null, .null, .null, .null]))]) s.heap := hP
  have hl := lv_entry ([.ref q, .int (nI n)]) (n := 2) (Nat.le_of_ble_eq_true rfl)
  rw [lg_entry_eq]
  generalize (lg_sl ([.ref q, .int (nI n)]) ++ List.replicate (2 - (lg_sl ([.ref q, .int (nI n)])).length) Slot.unset).toArray = ls at hl ⊢
  have hl : lv_has ls 2 [(0, .ref q), (1, .int (nI n))] := hl
  refine lv_aload_n hx hb dX1_init_0 rfl (lv_at hl 0 rfl) ?_
  refine W.objInit hx hb hown (hE.t m_53 rfl) (hE.t m_40 rfl) (hE.t m_41 rfl) rfl (by rw [hml]; exact hl.1) rfl dX1_init_1 (Nat.le_of_ble_eq_true rfl) (Nat.le_of_ble_eq_true rfl) ?_
  refine W.eq (g2 := F0 m 4 ls []) rfl ?_
  refine lv_aload_n hx hb dX1_init_4 rfl (lv_at hl 0 rfl) ?_
  refine lv_iload_n hx hb dX1_init_5 rfl (lv_at hl 1 rfl) ?_
  refine va_putF (D := (dC, dI)) (ci := 1) (v := .int (nI n)) (ty := .int) (C := RX1) (T := TX1) (N := 6) hx hb hts inX1 tyX1 tyX1_ok nmX1 hown hK hP hD hS 0 rfl rfl 0 (by decide) (hE.t m_57 rfl) (fun _ h9 => h9) rfl hin rfl (by decide +kernel) rfl rfl (Nat.le_of_ble_eq_true rfl) dX1_init_6 (fun H locs hP hD hS => ?_)
  have hP : va_P (dC, dI) vwCl ([(q, .inr (1, [.int (nI n), .null, .null, .null, .null, .null]))]) H := hP
  have hD : va_D A ([(q, .inr (1, [.int (nI n), .null, .null, .null, .null, .null]))]) := hD
  refine lv_aload_n hx hb dX1_init_9 rfl (lv_at hl 0 rfl) ?_
  refine lv_iload_n hx hb dX1_init_10 rfl (lv_at hl 1 rfl) ?_
  refine va_newa (a0 := (n, .inl (fun _ => 0))) hx hb (hE.t m_84 rfl) rfl hK hP hD hS hA (fun _ => rfl) (nI_pos (by omega)) (nI_clamp (by omega)) (by show n * 4 ≤ 536870912; omega) (by decide) (by show 0 + n ≤ 200; omega) dX1_init_11 (fun q11 cA11 H hK hP hD hS => ?_)
  refine W.widen (k := 1) (n := 40) (by omega) (by omega) ?_
  have hK : va_K (dC, dI) vwCl [(cA11, .int)] s := hK
  have hP : va_P (dC, dI) vwCl ([(q, .inr (1, [.int (nI n), .null, .null, .null, .null, .null])), (q11, .inl (cA11, n, .inl (fun _ => 0)))]) H := hP
  have hD : va_D A ([(q, .inr (1, [.int (nI n), .null, .null, .null, .null, .null])), (q11, .inl (cA11, n, .inl (fun _ => 0)))]) := hD
  refine va_putF (D := (dC, dI)) (ci := 1) (v := .ref q11) (ty := (.array .int)) (C := RX1) (T := TX1) (N := 6) hx hb hts inX1 tyX1 tyX1_ok nmX1 hown hK hP hD hS 0 rfl rfl 1 (by decide) (hE.t m_60 rfl) (fun _ h9 => h9) rfl hin rfl (by decide +kernel) rfl rfl (Nat.le_of_ble_eq_true rfl) dX1_init_13 (fun H locs hP hD hS => ?_)
  have hP : va_P (dC, dI) vwCl ([(q, .inr (1, [.int (nI n), .ref q11, .null, .null, .null, .null])), (q11, .inl (cA11, n, .inl (fun _ => 0)))]) H := hP
  have hD : va_D A ([(q, .inr (1, [.int (nI n), .ref q11, .null, .null, .null, .null])), (q11, .inl (cA11, n, .inl (fun _ => 0)))]) := hD
  refine lv_aload_n hx hb dX1_init_16 rfl (lv_at hl 0 rfl) ?_
  refine lv_iload_n hx hb dX1_init_17 rfl (lv_at hl 1 rfl) ?_
  refine va_newa (a0 := (n, .inl (fun _ => 0))) hx hb (hE.t m_84 rfl) rfl hK hP hD hS hA (fun _ => rfl) (nI_pos (by omega)) (nI_clamp (by omega)) (by show n * 4 ≤ 536870912; omega) (by decide) (by show 40 + n ≤ 200; omega) dX1_init_18 (fun q18 cA18 H hK hP hD hS => ?_)
  refine W.widen (k := 2) (n := 80) (by omega) (by omega) ?_
  have h9 : cA11 = cA18 := cls_eq hK 0 1 rfl rfl
  subst h9
  have hK : va_K (dC, dI) vwCl [(cA11, .int)] s := hK.sub [0] rfl
  have hP : va_P (dC, dI) vwCl ([(q, .inr (1, [.int (nI n), .ref q11, .null, .null, .null, .null])), (q11, .inl (cA11, n, .inl (fun _ => 0))), (q18, .inl (cA11, n, .inl (fun _ => 0)))]) H := hP
  have hD : va_D A ([(q, .inr (1, [.int (nI n), .ref q11, .null, .null, .null, .null])), (q11, .inl (cA11, n, .inl (fun _ => 0))), (q18, .inl (cA11, n, .inl (fun _ => 0)))]) := hD
  refine va_putF (D := (dC, dI)) (ci := 1) (v := .ref q18) (ty := (.array .int)) (C := RX1) (T := TX1) (N := 6) hx hb hts inX1 tyX1 tyX1_ok nmX1 hown hK hP hD hS 0 rfl rfl 2 (by decide) (hE.t m_62 rfl) (fun _ h9 => h9) rfl hin rfl (by decide +kernel) rfl rfl (Nat.le_of_ble_eq_true rfl) dX1_init_20 (fun H locs hP hD hS => ?_)
  have hP : va_P (dC, dI) vwCl ([(q, .inr (1, [.int (nI n), .ref q11, .ref q18, .null, .null, .null])), (q11, .inl (cA11, n, .inl (fun _ => 0))), (q18, .inl (cA11, n, .inl (fun _ => 0)))]) H := hP
  have hD : va_D A ([(q, .inr (1, [.int (nI n), .ref q11, .ref q18, .null, .null, .null])), (q11, .inl (cA11, n, .inl (fun _ => 0))), (q18, .inl (cA11, n, .inl (fun _ => 0)))]) := hD
  refine lv_aload_n hx hb dX1_init_23 rfl (lv_at hl 0 rfl) ?_
  refine lv_iload_n hx hb dX1_init_24 rfl (lv_at hl 1 rfl) ?_
  refine va_newa (a0 := (n, .inl (fun _ => 0))) hx hb (hE.t m_84 rfl) rfl hK hP hD hS hA (fun _ => rfl) (nI_pos (by omega)) (nI_clamp (by omega)) (by show n * 4 ≤ 536870912; omega) (by decide) (by show 80 + n ≤ 200; omega) dX1_init_25 (fun q25 cA25 H hK hP hD hS => ?_)
  refine W.widen (k := 3) (n := 120) (by omega) (by omega) ?_
  have h9 : cA11 = cA25 := cls_eq hK 0 1 rfl rfl
  subst h9
  have hK : va_K (dC, dI) vwCl [(cA11, .int)] s := hK.sub [0] rfl
  have hP : va_P (dC, dI) vwCl ([(q, .inr (1, [.int (nI n), .ref q11, .ref q18, .null, .null, .null])), (q11, .inl (cA11, n, .inl (fun _ => 0))), (q18, .inl (cA11, n, .inl (fun _ => 0))), (q25, .inl (cA11, n, .inl (fun _ => 0)))]) H := hP
  have hD : va_D A ([(q, .inr (1, [.int (nI n), .ref q11, .ref q18, .null, .null, .null])), (q11, .inl (cA11, n, .inl (fun _ => 0))), (q18, .inl (cA11, n, .inl (fun _ => 0))), (q25, .inl (cA11, n, .inl (fun _ => 0)))]) := hD
  refine va_putF (D := (dC, dI)) (ci := 1) (v := .ref q25) (ty := (.array .int)) (C := RX1) (T := TX1) (N := 6) hx hb hts inX1 tyX1 tyX1_ok nmX1 hown hK hP hD hS 0 rfl rfl 3 (by decide) (hE.t m_64 rfl) (fun _ h9 => h9) rfl hin rfl (by decide +kernel) rfl rfl (Nat.le_of_ble_eq_true rfl) dX1_init_27 (fun H locs hP hD hS => ?_)
  have hP : va_P (dC, dI) vwCl ([(q, .inr (1, [.int (nI n), .ref q11, .ref q18, .ref q25, .null, .null])), (q11, .inl (cA11, n, .inl (fun _ => 0))), (q18, .inl (cA11, n, .inl (fun _ => 0))), (q25, .inl (cA11, n, .inl (fun _ => 0)))]) H := hP
  have hD : va_D A ([(q, .inr (1, [.int (nI n), .ref q11, .ref q18, .ref q25, .null, .null])), (q11, .inl (cA11, n, .inl (fun _ => 0))), (q18, .inl (cA11, n, .inl (fun _ => 0))), (q25, .inl (cA11, n, .inl (fun _ => 0)))]) := hD
  refine lv_aload_n hx hb dX1_init_30 rfl (lv_at hl 0 rfl) ?_
  refine lv_iload_n hx hb dX1_init_31 rfl (lv_at hl 1 rfl) ?_
  refine va_newa (a0 := (n, .inl (fun _ => 0))) hx hb (hE.t m_84 rfl) rfl hK hP hD hS hA (fun _ => rfl) (nI_pos (by omega)) (nI_clamp (by omega)) (by show n * 4 ≤ 536870912; omega) (by decide) (by show 120 + n ≤ 200; omega) dX1_init_32 (fun q32 cA32 H hK hP hD hS => ?_)
  refine W.widen (k := 4) (n := 160) (by omega) (by omega) ?_
  have h9 : cA11 = cA32 := cls_eq hK 0 1 rfl rfl
  subst h9
  have hK : va_K (dC, dI) vwCl [(cA11, .int)] s := hK.sub [0] rfl
  have hP : va_P (dC, dI) vwCl ([(q, .inr (1, [.int (nI n), .ref q11, .ref q18, .ref q25, .null, .null])), (q11, .inl (cA11, n, .inl (fun _ => 0))), (q18, .inl (cA11, n, .inl (fun _ => 0))), (q25, .inl (cA11, n, .inl (fun _ => 0))), (q32, .inl (cA11, n, .inl (fun _ => 0)))]) H := hP
  have hD : va_D A ([(q, .inr (1, [.int (nI n), .ref q11, .ref q18, .ref q25, .null, .null])), (q11, .inl (cA11, n, .inl (fun _ => 0))), (q18, .inl (cA11, n, .inl (fun _ => 0))), (q25, .inl (cA11, n, .inl (fun _ => 0))), (q32, .inl (cA11, n, .inl (fun _ => 0)))]) := hD
  refine va_putF (D := (dC, dI)) (ci := 1) (v := .ref q32) (ty := (.array .int)) (C := RX1) (T := TX1) (N := 6) hx hb hts inX1 tyX1 tyX1_ok nmX1 hown hK hP hD hS 0 rfl rfl 4 (by decide) (hE.t m_66 rfl) (fun _ h9 => h9) rfl hin rfl (by decide +kernel) rfl rfl (Nat.le_of_ble_eq_true rfl) dX1_init_34 (fun H locs hP hD hS => ?_)
  have hP : va_P (dC, dI) vwCl ([(q, .inr (1, [.int (nI n), .ref q11, .ref q18, .ref q25, .ref q32, .null])), (q11, .inl (cA11, n, .inl (fun _ => 0))), (q18, .inl (cA11, n, .inl (fun _ => 0))), (q25, .inl (cA11, n, .inl (fun _ => 0))), (q32, .inl (cA11, n, .inl (fun _ => 0)))]) H := hP
  have hD : va_D A ([(q, .inr (1, [.int (nI n), .ref q11, .ref q18, .ref q25, .ref q32, .null])), (q11, .inl (cA11, n, .inl (fun _ => 0))), (q18, .inl (cA11, n, .inl (fun _ => 0))), (q25, .inl (cA11, n, .inl (fun _ => 0))), (q32, .inl (cA11, n, .inl (fun _ => 0)))]) := hD
  refine lv_aload_n hx hb dX1_init_37 rfl (lv_at hl 0 rfl) ?_
  refine lv_iload_n hx hb dX1_init_38 rfl (lv_at hl 1 rfl) ?_
  refine va_newa (a0 := (n, .inl (fun _ => 0))) hx hb (hE.t m_84 rfl) rfl hK hP hD hS hA (fun _ => rfl) (nI_pos (by omega)) (nI_clamp (by omega)) (by show n * 4 ≤ 536870912; omega) (by decide) (by show 160 + n ≤ 200; omega) dX1_init_39 (fun q39 cA39 H hK hP hD hS => ?_)
  refine W.widen (k := 5) (n := 200) (by omega) (by omega) ?_
  have h9 : cA11 = cA39 := cls_eq hK 0 1 rfl rfl
  subst h9
  have hK : va_K (dC, dI) vwCl [(cA11, .int)] s := hK.sub [0] rfl
  have hP : va_P (dC, dI) vwCl ([(q, .inr (1, [.int (nI n), .ref q11, .ref q18, .ref q25, .ref q32, .null])), (q11, .inl (cA11, n, .inl (fun _ => 0))), (q18, .inl (cA11, n, .inl (fun _ => 0))), (q25, .inl (cA11, n, .inl (fun _ => 0))), (q32, .inl (cA11, n, .inl (fun _ => 0))), (q39, .inl (cA11, n, .inl (fun _ => 0)))]) H := hP
  have hD : va_D A ([(q, .inr (1, [.int (nI n), .ref q11, .ref q18, .ref q25, .ref q32, .null])), (q11, .inl (cA11, n, .inl (fun _ => 0))), (q18, .inl (cA11, n, .inl (fun _ => 0))), (q25, .inl (cA11, n, .inl (fun _ => 0))), (q32, .inl (cA11, n, .inl (fun _ => 0))), (q39, .inl (cA11, n, .inl (fun _ => 0)))]) := hD
  refine va_putF (D := (dC, dI)) (ci := 1) (v := .ref q39) (ty := (.array .int)) (C := RX1) (T := TX1) (N := 6) hx hb hts inX1 tyX1 tyX1_ok nmX1 hown hK hP hD hS 0 rfl rfl 5 (by decide) (hE.t m_68 rfl) (fun _ h9 => h9) rfl hin rfl (by decide +kernel) rfl rfl (Nat.le_of_ble_eq_true rfl) dX1_init_41 (fun H locs hP hD hS => ?_)
  have hP : va_P (dC, dI) vwCl ([(q, .inr (1, [.int (nI n), .ref q11, .ref q18, .ref q25, .ref q32, .ref q39])), (q11, .inl (cA11, n, .inl (fun _ => 0))), (q18, .inl (cA11, n, .inl (fun _ => 0))), (q25, .inl (cA11, n, .inl (fun _ => 0))), (q32, .inl (cA11, n, .inl (fun _ => 0))), (q39, .inl (cA11, n, .inl (fun _ => 0)))]) H := hP
  have hD : va_D A ([(q, .inr (1, [.int (nI n), .ref q11, .ref q18, .ref q25, .ref q32, .ref q39])), (q11, .inl (cA11, n, .inl (fun _ => 0))), (q18, .inl (cA11, n, .inl (fun _ => 0))), (q25, .inl (cA11, n, .inl (fun _ => 0))), (q32, .inl (cA11, n, .inl (fun _ => 0))), (q39, .inl (cA11, n, .inl (fun _ => 0)))]) := hD
  refine lv_aload_n hx hb dX1_init_44 rfl (lv_at hl 0 rfl) ?_
  refine va_get (D := (dC, dI)) (ci := 1) (v := .ref q11) (C := RX1) (T := TX1) (N := 6) hx hb hts inX1 hown hK hP 0 rfl rfl 1 (by decide) (hE.t m_60 rfl) (fun _ h9 => h9) rfl dX1_init_45 ?_
  refine lv_iconst (v := 1) hx hb dX1_init_48 (by decide) ?_
  have hPc := hP.sub (ws' := [(q11, .inl (cA11, n, .inl (fun _ => 0)))]) [1] rfl
  have hDc := hD.sub (ws' := [(q11, .inl (cA11, n, .inl (fun _ => 0)))]) [1] (by decide) rfl
  have hFc := fre1 hD hS hA (k := 1) (x := (q11, .inl (cA11, n, .inl (fun _ => 0)))) rfl
  refine va_callv (va_runS (As := [.ref q11, .int 1]) (rest := []) ⟨hx, hb, hml, hown, hts⟩ (c_fill l dC dI cA11 q11 _ n (fun _ => 0) 1 (by omega)) (va_cwS 2 hts gX1_init_J0_fill rfl rfl rfl (by decide +kernel) ⟨(Nat.le_of_ble_eq_true rfl), (Nat.le_of_ble_eq_true rfl)⟩) ⟨ini_blind, fill_give hPc hK hDc⟩ rfl rfl hl.1 rfl (lv_room (Nat.le_of_ble_eq_true rfl)) dX1_init_49 ⟨by decide, by decide⟩) hS (fun q _ h => hFc q h) hFc (fun u t H1 locs ht hvm hw hB hz1 hk1 hS => ?_)
  obtain rfl := hw
  obtain ⟨hP, hD⟩ := fill_take (k := 1) hP hD rfl ht hk1 hB
  generalize H1 = H at hP hS ⊢
  have hP : va_P (dC, dI) vwCl ([(q, .inr (1, [.int (nI n), .ref q11, .ref q18, .ref q25, .ref q32, .ref q39])), (q11, .inl (cA11, n, .inl (fil (fun _ => 1) (fun _ => 0) n))), (q18, .inl (cA11, n, .inl (fun _ => 0))), (q25, .inl (cA11, n, .inl (fun _ => 0))), (q32, .inl (cA11, n, .inl (fun _ => 0))), (q39, .inl (cA11, n, .inl (fun _ => 0)))]) H := hP
  have hD : va_D A ([(q, .inr (1, [.int (nI n), .ref q11, .ref q18, .ref q25, .ref q32, .ref q39])), (q11, .inl (cA11, n, .inl (fil (fun _ => 1) (fun _ => 0) n))), (q18, .inl (cA11, n, .inl (fun _ => 0))), (q25, .inl (cA11, n, .inl (fun _ => 0))), (q32, .inl (cA11, n, .inl (fun _ => 0))), (q39, .inl (cA11, n, .inl (fun _ => 0)))]) := hD
  refine lv_aload_n hx hb dX1_init_52 rfl (lv_at hl 0 rfl) ?_
  refine va_get (D := (dC, dI)) (ci := 1) (v := .ref q32) (C := RX1) (T := TX1) (N := 6) hx hb hts inX1 hown hK hP 0 rfl rfl 4 (by decide) (hE.t m_66 rfl) (fun _ h9 => h9) rfl dX1_init_53 ?_
  refine lv_iconst (v := 1) hx hb dX1_init_56 (by decide) ?_
  have hPc := hP.sub (ws' := [(q32, .inl (cA11, n, .inl (fun _ => 0)))]) [4] rfl
  have hDc := hD.sub (ws' := [(q32, .inl (cA11, n, .inl (fun _ => 0)))]) [4] (by decide) rfl
  have hFc := fre1 hD hS hA (k := 4) (x := (q32, .inl (cA11, n, .inl (fun _ => 0)))) rfl
  refine va_callv (va_runS (As := [.ref q32, .int 1]) (rest := []) ⟨hx, hb, hml, hown, hts⟩ (c_fill l dC dI cA11 q32 _ n (fun _ => 0) 1 (by omega)) (va_cwS 2 hts gX1_init_J0_fill rfl rfl rfl (by decide +kernel) ⟨(Nat.le_of_ble_eq_true rfl), (Nat.le_of_ble_eq_true rfl)⟩) ⟨ini_blind, fill_give hPc hK hDc⟩ rfl rfl hl.1 rfl (lv_room (Nat.le_of_ble_eq_true rfl)) dX1_init_57 ⟨by decide, by decide⟩) hS (fun q _ h => hFc q h) hFc (fun u t H1 locs ht hvm hw hB hz1 hk1 hS => ?_)
  obtain rfl := hw
  obtain ⟨hP, hD⟩ := fill_take (k := 4) hP hD rfl ht hk1 hB
  generalize H1 = H at hP hS ⊢
  have hP : va_P (dC, dI) vwCl ([(q, .inr (1, [.int (nI n), .ref q11, .ref q18, .ref q25, .ref q32, .ref q39])), (q11, .inl (cA11, n, .inl (fil (fun _ => 1) (fun _ => 0) n))), (q18, .inl (cA11, n, .inl (fun _ => 0))), (q25, .inl (cA11, n, .inl (fun _ => 0))), (q32, .inl (cA11, n, .inl (fil (fun _ => 1) (fun _ => 0) n))), (q39, .inl (cA11, n, .inl (fun _ => 0)))]) H := hP
  have hD : va_D A ([(q, .inr (1, [.int (nI n), .ref q11, .ref q18, .ref q25, .ref q32, .ref q39])), (q11, .inl (cA11, n, .inl (fil (fun _ => 1) (fun _ => 0) n))), (q18, .inl (cA11, n, .inl (fun _ => 0))), (q25, .inl (cA11, n, .inl (fun _ => 0))), (q32, .inl (cA11, n, .inl (fil (fun _ => 1) (fun _ => 0) n))), (q39, .inl (cA11, n, .inl (fun _ => 0)))]) := hD
  refine W.widen (k := 5) (n := 200) (by omega) (by omega) ?_
  exact W.vret hx hb hr (fun t ht hW => ⟨⟨(cA11, q11, q18, q25, q32, q39), rfl, trivial, by rw [ht]; exact hP, va_K.moved hW.alike hK, hD⟩, hS.F ht⟩) hS.2.2 dX1_init_60
set_option maxHeartbeats 4000000 in
set_option maxRecDepth 100000 in
/-- Acts() -/
theorem c_X2_init (l : Launch) (dC : Nat → ClassId) (dI : Nat → Nat → Nat) (q : Nat) (sz : Nat)  : Met l yX2_init wsX2_init ({ frames := 1, cells := 2, slots := 48, locals := 40 }) (va_Pc [.ref q] (PJ dC dI [(q, .inr (2, [.null, .null, .int 0]))] sz)) (va_Qv (fun (u : ClassId × Nat × Nat) => True) (fun (u : ClassId × Nat × Nat) t => va_P (dC, dI) vwCl [(q, .inr (2, [.ref u.2.1, .ref u.2.2, .int (nI 0)])), (u.2.1, .inl (u.1, 24, .inl (fun _ => 0))), (u.2.2, .inl (u.1, 24, .inl (fun _ => 0)))] t.heap ∧ va_K (dC, dI) vwCl [(u.1, .int)] t ∧ va_D (va_A [(q, .inr (2, [.null, .null, .int 0]))] sz) [(q, .inr (2, [.ref u.2.1, .ref u.2.2, .int (nI 0)])), (u.2.1, .inl (u.1, 24, .inl (fun _ => 0))), (u.2.2, .inl (u.1, 24, .inl (fun _ => 0)))]) (va_A [(q, .inr (2, [.null, .null, .int 0]))] sz)) 2 48 (va_A [(q, .inr (2, [.null, .null, .int 0]))] sz) := by
  refine Met.ofW (cc := cX2_init) (maxL := 1) (ret := none) (by decide) rfl ?_
  intro p e s m args below meth c s₁ B hml hv
  obtain ⟨rfl, hsz, hP, hK, hD0, hE⟩ := hv
  have hx := B.exec
  have hb := B.bytes
  have hr := B.returns
  have hown : s.vm.findClass RX2 = some m.cls := findClass_of_methodNamed B.named
  have hlocks := B.notSynchronized
  have hin : meth.name = "<init>" := (name_of_methodNamed B.named B.method).1
  subst hsz
  have hD := hD0.self (sz := s.heap.size)
  generalize hAe : va_A [(q, .inr (2, [.null, .null, .int 0]))] s.heap.size = A at hD hE ⊢
  have hts := hE.ts (args := ([.ref q] : List Value).toArray)
  have hA : ∀ q : Nat, s.heap.size ≤ q → A q := fun q h => by rw [← hAe]; exact Or.inr h
  have hS : va_S A s.heap s.heap [] := va_S.rf
  have hP : va_P (dC, dI) vwCl ([(q, .inr (2, [.null, .null, .int 0]))]) s.heap := hP
  have hl := lv_entry ([.ref q]) (n := 1) (Nat.le_of_ble_eq_true rfl)
  rw [lg_entry_eq]
  generalize (lg_sl ([.ref q]) ++ List.replicate (1 - (lg_sl ([.ref q])).length) Slot.unset).toArray = ls at hl ⊢
  have hl : lv_has ls 1 [(0, .ref q)] := hl
  refine lv_aload_n hx hb dX2_init_0 rfl (lv_at hl 0 rfl) ?_
  refine W.objInit hx hb hown (hE.t m_90 rfl) (hE.t m_40 rfl) (hE.t m_41 rfl) rfl (by rw [hml]; exact hl.1) rfl dX2_init_1 (Nat.le_of_ble_eq_true rfl) (Nat.le_of_ble_eq_true rfl) ?_
  refine W.eq (g2 := F0 m 4 ls []) rfl ?_
  refine lv_aload_n hx hb dX2_init_4 rfl (lv_at hl 0 rfl) ?_
  refine lv_bipush (v := 24) hx hb dX2_init_5 (by decide) ?_
  refine va_newa (a0 := (24, .inl (fun _ => 0))) hx hb (hE.t m_84 rfl) rfl hK hP hD hS hA (fun _ => rfl) (by decide) (by decide) (by decide) (by decide) (by show 0 + 24 ≤ 48; omega) dX2_init_7 (fun q7 cA7 H hK hP hD hS => ?_)
  refine W.widen (k := 1) (n := 24) (by omega) (by omega) ?_
  have hK : va_K (dC, dI) vwCl [(cA7, .int)] s := hK
  have hP : va_P (dC, dI) vwCl ([(q, .inr (2, [.null, .null, .int 0])), (q7, .inl (cA7, 24, .inl (fun _ => 0)))]) H := hP
  have hD : va_D A ([(q, .inr (2, [.null, .null, .int 0])), (q7, .inl (cA7, 24, .inl (fun _ => 0)))]) := hD
  refine va_putF (D := (dC, dI)) (ci := 2) (v := .ref q7) (ty := (.array .int)) (C := RX2) (T := TX2) (N := 3) hx hb hts inX2 tyX2 tyX2_ok nmX2 hown hK hP hD hS 0 rfl rfl 0 (by decide) (hE.t m_91 rfl) (fun _ h9 => h9) rfl hin rfl (by decide +kernel) rfl rfl (Nat.le_of_ble_eq_true rfl) dX2_init_9 (fun H locs hP hD hS => ?_)
  have hP : va_P (dC, dI) vwCl ([(q, .inr (2, [.ref q7, .null, .int 0])), (q7, .inl (cA7, 24, .inl (fun _ => 0)))]) H := hP
  have hD : va_D A ([(q, .inr (2, [.ref q7, .null, .int 0])), (q7, .inl (cA7, 24, .inl (fun _ => 0)))]) := hD
  refine lv_aload_n hx hb dX2_init_12 rfl (lv_at hl 0 rfl) ?_
  refine lv_bipush (v := 24) hx hb dX2_init_13 (by decide) ?_
  refine va_newa (a0 := (24, .inl (fun _ => 0))) hx hb (hE.t m_84 rfl) rfl hK hP hD hS hA (fun _ => rfl) (by decide) (by decide) (by decide) (by decide) (by show 24 + 24 ≤ 48; omega) dX2_init_15 (fun q15 cA15 H hK hP hD hS => ?_)
  refine W.widen (k := 2) (n := 48) (by omega) (by omega) ?_
  have h9 : cA7 = cA15 := cls_eq hK 0 1 rfl rfl
  subst h9
  have hK : va_K (dC, dI) vwCl [(cA7, .int)] s := hK.sub [0] rfl
  have hP : va_P (dC, dI) vwCl ([(q, .inr (2, [.ref q7, .null, .int 0])), (q7, .inl (cA7, 24, .inl (fun _ => 0))), (q15, .inl (cA7, 24, .inl (fun _ => 0)))]) H := hP
  have hD : va_D A ([(q, .inr (2, [.ref q7, .null, .int 0])), (q7, .inl (cA7, 24, .inl (fun _ => 0))), (q15, .inl (cA7, 24, .inl (fun _ => 0)))]) := hD
  refine va_putF (D := (dC, dI)) (ci := 2) (v := .ref q15) (ty := (.array .int)) (C := RX2) (T := TX2) (N := 3) hx hb hts inX2 tyX2 tyX2_ok nmX2 hown hK hP hD hS 0 rfl rfl 1 (by decide) (hE.t m_93 rfl) (fun _ h9 => h9) rfl hin rfl (by decide +kernel) rfl rfl (Nat.le_of_ble_eq_true rfl) dX2_init_17 (fun H locs hP hD hS => ?_)
  have hP : va_P (dC, dI) vwCl ([(q, .inr (2, [.ref q7, .ref q15, .int 0])), (q7, .inl (cA7, 24, .inl (fun _ => 0))), (q15, .inl (cA7, 24, .inl (fun _ => 0)))]) H := hP
  have hD : va_D A ([(q, .inr (2, [.ref q7, .ref q15, .int 0])), (q7, .inl (cA7, 24, .inl (fun _ => 0))), (q15, .inl (cA7, 24, .inl (fun _ => 0)))]) := hD
  refine lv_aload_n hx hb dX2_init_20 rfl (lv_at hl 0 rfl) ?_
  refine lv_iconst (v := 0) hx hb dX2_init_21 (by decide) ?_
  refine va_put (D := (dC, dI)) (ci := 2) (v := .int 0) (ty := .int) (C := RX2) (T := TX2) (N := 3) hx hb hts inX2 tyX2 tyX2_ok nmX2 hown hK hP hD hS 0 rfl rfl 2 (by decide) (hE.t m_95 rfl) (fun _ h9 => h9) rfl (by decide +kernel) rfl rfl (Nat.le_of_ble_eq_true rfl) dX2_init_22 (fun H locs hP hD hS => ?_)
  have hP : va_P (dC, dI) vwCl ([(q, .inr (2, [.ref q7, .ref q15, .int 0])), (q7, .inl (cA7, 24, .inl (fun _ => 0))), (q15, .inl (cA7, 24, .inl (fun _ => 0)))]) H := hP
  have hD : va_D A ([(q, .inr (2, [.ref q7, .ref q15, .int 0])), (q7, .inl (cA7, 24, .inl (fun _ => 0))), (q15, .inl (cA7, 24, .inl (fun _ => 0)))]) := hD
  refine W.widen (k := 2) (n := 48) (by omega) (by omega) ?_
  exact W.vret hx hb hr (fun t ht hW => ⟨⟨(cA7, q7, q15), rfl, trivial, by rw [ht]; exact hP, va_K.moved hW.alike hK, hD⟩, hS.F ht⟩) hS.2.2 dX2_init_25
set_option maxHeartbeats 4000000 in
set_option maxRecDepth 100000 in
/-- Told(n) -/
theorem c_X3_init (l : Launch) (dC : Nat → ClassId) (dI : Nat → Nat → Nat) (q : Nat) (sz : Nat) (n : Nat) (hn : n ≤ 40) : Met l yX3_init wsX3_init ({ frames := 1, cells := 3, slots := 104, locals := 40 }) (va_Pc [.ref q, .int (nI n)] (PJ dC dI [(q, .inr (3, [.null, .null, .null, .int 0, .long 0, .int 0, .int 0, .int 0]))] sz)) (va_Qv (fun (u : ClassId × Nat × Nat × Nat) => True) (fun (u : ClassId × Nat × Nat × Nat) t => va_P (dC, dI) vwCl [(q, .inr (3, [.ref u.2.1, .ref u.2.2.1, .ref u.2.2.2, .int 0, .long 0, .int 0, .int 0, .int 0])), (u.2.1, .inl (u.1, n, .inl (fun _ => 0))), (u.2.2.1, .inl (u.1, n, .inl (fun _ => 0))), (u.2.2.2, .inl (u.1, 24, .inl (fun _ => 0)))] t.heap ∧ va_K (dC, dI) vwCl [(u.1, .int)] t ∧ va_D (va_A [(q, .inr (3, [.null, .null, .null, .int 0, .long 0, .int 0, .int 0, .int 0]))] sz) [(q, .inr (3, [.ref u.2.1, .ref u.2.2.1, .ref u.2.2.2, .int 0, .long 0, .int 0, .int 0, .int 0])), (u.2.1, .inl (u.1, n, .inl (fun _ => 0))), (u.2.2.1, .inl (u.1, n, .inl (fun _ => 0))), (u.2.2.2, .inl (u.1, 24, .inl (fun _ => 0)))]) (va_A [(q, .inr (3, [.null, .null, .null, .int 0, .long 0, .int 0, .int 0, .int 0]))] sz)) 3 104 (va_A [(q, .inr (3, [.null, .null, .null, .int 0, .long 0, .int 0, .int 0, .int 0]))] sz) := by
  refine Met.ofW (cc := cX3_init) (maxL := 2) (ret := none) (by decide) rfl ?_
  intro p e s m args below meth c s₁ B hml hv
  obtain ⟨rfl, hsz, hP, hK, hD0, hE⟩ := hv
  have hx := B.exec
  have hb := B.bytes
  have hr := B.returns
  have hown : s.vm.findClass RX3 = some m.cls := findClass_of_methodNamed B.named
  have hlocks := B.notSynchronized
  have hin : meth.name = "<init>" := (name_of_methodNamed B.named B.method).1
  subst hsz
  have hD := hD0.self (sz := s.heap.size)
  generalize hAe : va_A [(q, .inr (3, [.null, .null, .null, .int 0, .long 0, .int 0, .int 0, .int 0]))] s.heap.size = A at hD hE ⊢
  have hts := hE.ts (args := ([.ref q, .int (nI n)] : List Value).toArray)
  have hA : ∀ q : Nat, s.heap.size ≤ q → A q := fun q h => by rw [← hAe]; exact Or.inr h
  have hS : va_S A s.heap s.heap [] := va_S.rf
  have hP : va_P (dC, dI) vwCl ([(q, .inr (3, [.null, .null, .null, .int 0, .long 0, .int 0, .int 0, .int 0]))]) s.heap := hP
  have hl := lv_entry ([.ref q, .int (nI n)]) (n := 2) (Nat.le_of_ble_eq_true rfl)
  rw [lg_entry_eq]
  generalize (lg_sl ([.ref q, .int (nI n)]) ++ List.replicate (2 - (lg_sl ([.ref q, .int (nI n)])).length) Slot.unset).toArray = ls at hl ⊢
  have hl : lv_has ls 2 [(0, .ref q), (1, .int (nI n))] := hl
  refine lv_aload_n hx hb dX3_init_0 rfl (lv_at hl 0 rfl) ?_
  refine W.objInit hx hb hown (hE.t m_110 rfl) (hE.t m_40 rfl) (hE.t m_41 rfl) rfl (by rw [hml]; exact hl.1) rfl dX3_init_1 (Nat.le_of_ble_eq_true rfl) (Nat.le_of_ble_eq_true rfl) ?_
  refine W.eq (g2 := F0 m 4 ls []) rfl ?_
  refine lv_aload_n hx hb dX3_init_4 rfl (lv_at hl 0 rfl) ?_
  refine lv_iload_n hx hb dX3_init_5 rfl (lv_at hl 1 rfl) ?_
  refine va_newa (a0 := (n, .inl (fun _ => 0))) hx hb (hE.t m_84 rfl) rfl hK hP hD hS hA (fun _ => rfl) (nI_pos (by omega)) (nI_clamp (by omega)) (by show n * 4 ≤ 536870912; omega) (by decide) (by show 0 + n ≤ 104; omega) dX3_init_6 (fun q6 cA6 H hK hP hD hS => ?_)
  refine W.widen (k := 1) (n := 40) (by omega) (by omega) ?_
  have hK : va_K (dC, dI) vwCl [(cA6, .int)] s := hK
  have hP : va_P (dC, dI) vwCl ([(q, .inr (3, [.null, .null, .null, .int 0, .long 0, .int 0, .int 0, .int 0])), (q6, .inl (cA6, n, .inl (fun _ => 0)))]) H := hP
  have hD : va_D A ([(q, .inr (3, [.null, .null, .null, .int 0, .long 0, .int 0, .int 0, .int 0])), (q6, .inl (cA6, n, .inl (fun _ => 0)))]) := hD
  refine va_putF (D := (dC, dI)) (ci := 3) (v := .ref q6) (ty := (.array .int)) (C := RX3) (T := TX3) (N := 8) hx hb hts inX3 tyX3 tyX3_ok nmX3 hown hK hP hD hS 0 rfl rfl 0 (by decide) (hE.t m_111 rfl) (fun _ h9 => h9) rfl hin rfl (by decide +kernel) rfl rfl (Nat.le_of_ble_eq_true rfl) dX3_init_8 (fun H locs hP hD hS => ?_)
  have hP : va_P (dC, dI) vwCl ([(q, .inr (3, [.ref q6, .null, .null, .int 0, .long 0, .int 0, .int 0, .int 0])), (q6, .inl (cA6, n, .inl (fun _ => 0)))]) H := hP
  have hD : va_D A ([(q, .inr (3, [.ref q6, .null, .null, .int 0, .long 0, .int 0, .int 0, .int 0])), (q6, .inl (cA6, n, .inl (fun _ => 0)))]) := hD
  refine lv_aload_n hx hb dX3_init_11 rfl (lv_at hl 0 rfl) ?_
  refine lv_iload_n hx hb dX3_init_12 rfl (lv_at hl 1 rfl) ?_
  refine va_newa (a0 := (n, .inl (fun _ => 0))) hx hb (hE.t m_84 rfl) rfl hK hP hD hS hA (fun _ => rfl) (nI_pos (by omega)) (nI_clamp (by omega)) (by show n * 4 ≤ 536870912; omega) (by decide) (by show 40 + n ≤ 104; omega) dX3_init_13 (fun q13 cA13 H hK hP hD hS => ?_)
  refine W.widen (k := 2) (n := 80) (by omega) (by omega) ?_
  have h9 : cA6 = cA13 := cls_eq hK 0 1 rfl rfl
  subst h9
  have hK : va_K (dC, dI) vwCl [(cA6, .int)] s := hK.sub [0] rfl
  have hP : va_P (dC, dI) vwCl ([(q, .inr (3, [.ref q6, .null, .null, .int 0, .long 0, .int 0, .int 0, .int 0])), (q6, .inl (cA6, n, .inl (fun _ => 0))), (q13, .inl (cA6, n, .inl (fun _ => 0)))]) H := hP
  have hD : va_D A ([(q, .inr (3, [.ref q6, .null, .null, .int 0, .long 0, .int 0, .int 0, .int 0])), (q6, .inl (cA6, n, .inl (fun _ => 0))), (q13, .inl (cA6, n, .inl (fun _ => 0)))]) := hD
  refine va_putF (D := (dC, dI)) (ci := 3) (v := .ref q13) (ty := (.array .int)) (C := RX3) (T := TX3) (N := 8) hx hb hts inX3 tyX3 tyX3_ok nmX3 hown hK hP hD hS 0 rfl rfl 1 (by decide) (hE.t m_113 rfl) (fun _ h9 => h9) rfl hin rfl (by decide +kernel) rfl rfl (Nat.le_of_ble_eq_true rfl) dX3_init_15 (fun H locs hP hD hS => ?_)
  have hP : va_P (dC, dI) vwCl ([(q, .inr (3, [.ref q6, .ref q13, .null, .int 0, .long 0, .int 0, .int 0, .int 0])), (q6, .inl (cA6, n, .inl (fun _ => 0))), (q13, .inl (cA6, n, .inl (fun _ => 0)))]) H := hP
  have hD : va_D A ([(q, .inr (3, [.ref q6, .ref q13, .null, .int 0, .long 0, .int 0, .int 0, .int 0])), (q6, .inl (cA6, n, .inl (fun _ => 0))), (q13, .inl (cA6, n, .inl (fun _ => 0)))]) := hD
  refine lv_aload_n hx hb dX3_init_18 rfl (lv_at hl 0 rfl) ?_
  refine lv_bipush (v := 24) hx hb dX3_init_19 (by decide) ?_
  refine va_newa (a0 := (24, .inl (fun _ => 0))) hx hb (hE.t m_84 rfl) rfl hK hP hD hS hA (fun _ => rfl) (by decide) (by decide) (by decide) (by decide) (by show 80 + 24 ≤ 104; omega) dX3_init_21 (fun q21 cA21 H hK hP hD hS => ?_)
  refine W.widen (k := 3) (n := 104) (by omega) (by omega) ?_
  have h9 : cA6 = cA21 := cls_eq hK 0 1 rfl rfl
  subst h9
  have hK : va_K (dC, dI) vwCl [(cA6, .int)] s := hK.sub [0] rfl
  have hP : va_P (dC, dI) vwCl ([(q, .inr (3, [.ref q6, .ref q13, .null, .int 0, .long 0, .int 0, .int 0, .int 0])), (q6, .inl (cA6, n, .inl (fun _ => 0))), (q13, .inl (cA6, n, .inl (fun _ => 0))), (q21, .inl (cA6, 24, .inl (fun _ => 0)))]) H := hP
  have hD : va_D A ([(q, .inr (3, [.ref q6, .ref q13, .null, .int 0, .long 0, .int 0, .int 0, .int 0])), (q6, .inl (cA6, n, .inl (fun _ => 0))), (q13, .inl (cA6, n, .inl (fun _ => 0))), (q21, .inl (cA6, 24, .inl (fun _ => 0)))]) := hD
  refine va_putF (D := (dC, dI)) (ci := 3) (v := .ref q21) (ty := (.array .int)) (C := RX3) (T := TX3) (N := 8) hx hb hts inX3 tyX3 tyX3_ok nmX3 hown hK hP hD hS 0 rfl rfl 2 (by decide) (hE.t m_115 rfl) (fun _ h9 => h9) rfl hin rfl (by decide +kernel) rfl rfl (Nat.le_of_ble_eq_true rfl) dX3_init_23 (fun H locs hP hD hS => ?_)
  have hP : va_P (dC, dI) vwCl ([(q, .inr (3, [.ref q6, .ref q13, .ref q21, .int 0, .long 0, .int 0, .int 0, .int 0])), (q6, .inl (cA6, n, .inl (fun _ => 0))), (q13, .inl (cA6, n, .inl (fun _ => 0))), (q21, .inl (cA6, 24, .inl (fun _ => 0)))]) H := hP
  have hD : va_D A ([(q, .inr (3, [.ref q6, .ref q13, .ref q21, .int 0, .long 0, .int 0, .int 0, .int 0])), (q6, .inl (cA6, n, .inl (fun _ => 0))), (q13, .inl (cA6, n, .inl (fun _ => 0))), (q21, .inl (cA6, 24, .inl (fun _ => 0)))]) := hD
  refine W.widen (k := 3) (n := 104) (by omega) (by omega) ?_
  exact W.vret hx hb hr (fun t ht hW => ⟨⟨(cA6, q6, q13, q21), rfl, trivial, by rw [ht]; exact hP, va_K.moved hW.alike hK, hD⟩, hS.F ht⟩) hS.2.2 dX3_init_26
set_option maxHeartbeats 4000000 in
set_option maxRecDepth 100000 in
/-- DrawShares(p0) -/
theorem c_X0_init (l : Launch) (dC : Nat → ClassId) (dI : Nat → Nat → Nat) (q : Nat) (sz : Nat) (p0 : Int32) : Met l yX0_init wsX0_init ({ frames := 3, cells := 13, slots := 369, locals := 80 }) (va_Pc [.ref q, .int p0] (PJ dC dI [(q, .inr (0, [.null, .null, .null, .int 0, .int 0, .int 0]))] sz)) (va_Qv (fun (u : ClassId × (Nat → Nat)) => u.2 0 = q) (fun (u : ClassId × (Nat → Nat)) t => BX dC dI u.1 u.2 (va_A [(q, .inr (0, [.null, .null, .null, .int 0, .int 0, .int 0]))] sz) (x0 (szN p0)) t) (va_A [(q, .inr (0, [.null, .null, .null, .int 0, .int 0, .int 0]))] sz)) 13 369 (va_A [(q, .inr (0, [.null, .null, .null, .int 0, .int 0, .int 0]))] sz) := by
  refine Met.ofW (cc := cX0_init) (maxL := 3) (ret := none) (by decide) rfl ?_
  intro p e s m args below meth c s₁ B hml hv
  obtain ⟨rfl, hsz, hP, hK, hD0, hE⟩ := hv
  have hx := B.exec
  have hb := B.bytes
  have hr := B.returns
  have hown : s.vm.findClass RX0 = some m.cls := findClass_of_methodNamed B.named
  have hlocks := B.notSynchronized
  have hin : meth.name = "<init>" := (name_of_methodNamed B.named B.method).1
  subst hsz
  have hD := hD0.self (sz := s.heap.size)
  generalize hAe : va_A [(q, .inr (0, [.null, .null, .null, .int 0, .int 0, .int 0]))] s.heap.size = A at hD hE ⊢
  have hts := hE.ts (args := ([.ref q, .int p0] : List Value).toArray)
  have hA : ∀ q : Nat, s.heap.size ≤ q → A q := fun q h => by rw [← hAe]; exact Or.inr h
  have hS : va_S A s.heap s.heap [] := va_S.rf
  have hP : va_P (dC, dI) vwCl ([(q, .inr (0, [.null, .null, .null, .int 0, .int 0, .int 0]))]) s.heap := hP
  have hl := lv_entry ([.ref q, .int p0]) (n := 3) (Nat.le_of_ble_eq_true rfl)
  rw [lg_entry_eq]
  generalize (lg_sl ([.ref q, .int p0]) ++ List.replicate (3 - (lg_sl ([.ref q, .int p0])).length) Slot.unset).toArray = ls at hl ⊢
  have hl : lv_has ls 3 [(0, .ref q), (1, .int p0)] := hl
  have hn2 : szN p0 ≤ 40 := (szN_in p0).2.2
  refine lv_aload_n hx hb dX0_init_0 rfl (lv_at hl 0 rfl) ?_
  refine W.objInit hx hb hown (hE.t m_39 rfl) (hE.t m_40 rfl) (hE.t m_41 rfl) rfl (by rw [hml]; exact hl.1) rfl dX0_init_1 (Nat.le_of_ble_eq_true rfl) (Nat.le_of_ble_eq_true rfl) ?_
  refine W.eq (g2 := F0 m 4 ls []) rfl ?_
  refine lv_iconst (v := 1) hx hb dX0_init_4 (by decide) ?_
  refine lv_bipush (v := 40) hx hb dX0_init_5 (by decide) ?_
  refine lv_iload_n hx hb dX0_init_7 rfl (lv_at hl 1 rfl) ?_
  refine va_mmin hx hb (hml.trans hl.1.symm) hown (hE.t m_42 rfl) (hE.t m_43 rfl) (hE.t m_22 rfl) (hE.t m_44 rfl) (Nat.le_of_ble_eq_true rfl) (Nat.le_of_ble_eq_true rfl) (by decide) (by decide) dX0_init_8 ?_
  refine va_mmax hx hb (hml.trans hl.1.symm) hown (hE.t m_45 rfl) (hE.t m_46 rfl) (hE.t m_22 rfl) (hE.t m_47 rfl) (Nat.le_of_ble_eq_true rfl) (Nat.le_of_ble_eq_true rfl) (by decide) (by decide) dX0_init_11 ?_
  rw [(szN_in p0).1]
  refine lv_istore_n (lv' := [(2, .int (nI (szN p0))), (0, .ref q), (1, .int p0)]) hx hb dX0_init_14 rfl hl (by decide) rfl (fun ls hl => ?_)
  refine lv_aload_n hx hb dX0_init_15 rfl (lv_at hl 1 rfl) ?_
  refine va_new (ci := 1) (fs := [.int 0, .null, .null, .null, .null, .null]) (C := RX1) (T := TX1) (N := 6) hx hb hts inX1 tyX1 tyX1_ok hown (hE.t m_48 rfl) (hE.t m_49 rfl) (hE.t m_23 rfl) hK hP hD hS hA rfl (fun j hj => by match j, hj with | 0, _ => rfl | 1, _ => rfl | 2, _ => rfl | 3, _ => rfl | 4, _ => rfl | 5, _ => rfl | j + 6, hj => exact absurd hj (by omega)) (by decide) (by decide) dX0_init_16 (fun q16 H hP hD hS => ?_)
  refine W.widen (k := 1) (n := 6) (by omega) (by omega) ?_
  have hP : va_P (dC, dI) vwCl ([(q, .inr (0, [.null, .null, .null, .int 0, .int 0, .int 0])), (q16, .inr (1, [.int 0, .null, .null, .null, .null, .null]))]) H := hP
  have hD : va_D A ([(q, .inr (0, [.null, .null, .null, .int 0, .int 0, .int 0])), (q16, .inr (1, [.int 0, .null, .null, .null, .null, .null]))]) := hD
  refine lv_dup hx hb dX0_init_19 rfl ?_
  refine lv_iload_n hx hb dX0_init_20 rfl (lv_at hl 0 rfl) ?_
  have hPc := hP.sub (ws' := [(q16, .inr (1, [.int 0, .null, .null, .null, .null, .null]))]) [1] rfl
  have hDc := hD.sub (ws' := [(q16, .inr (1, [.int 0, .null, .null, .null, .null, .null]))]) [1] (by decide) rfl
  have hFc := va_free (wc := [(q16, .inr (1, [.int 0, .null, .null, .null, .null, .null]))]) hD hS hA [1] rfl
  refine va_callv (va_runIN (As := [.int (nI (szN p0))]) (rest := [.ref q16, .ref q]) ⟨hx, hb, hml, hown, hts⟩ (c_X1_init l dC dI q16 _ (szN p0) hn2) ⟨va_cnB (host := "DrawShares") 1 hts gX0_init_X1_init rfl rfl rfl (hE.t0 m_50 rfl) (hE.t m_23 rfl) (by decide +kernel) ⟨(Nat.le_of_ble_eq_true rfl), (Nat.le_of_ble_eq_true rfl)⟩, rfl, hE.t m_51 rfl⟩ ⟨ev_blind, ev_give hPc hK hDc hE hS hFc⟩ rfl rfl hl.1 rfl (lv_room (Nat.le_of_ble_eq_true rfl)) dX0_init_21 ⟨by decide, by decide⟩) hS (fun q _ h => hFc q h) hFc (fun u t H1 locs ht hvm hw hB hz1 hk1 hS => ?_)
  obtain ⟨cA21, b21_0, b21_1, b21_2, b21_3, b21_4⟩ := u
  obtain ⟨hP1, hK1, hD1⟩ := hB
  rw [ht] at hP1
  have hK1 := va_K.moved hvm.symm hK1
  obtain ⟨hP, hD⟩ := va_join (wr := [(q, .inr (0, [.null, .null, .null, .int 0, .int 0, .int 0]))]) (w1 := [(q16, .inr (1, [.int (nI (szN p0)), .ref b21_0, .ref b21_1, .ref b21_2, .ref b21_3, .ref b21_4])), (b21_0, .inl (cA21, szN p0, .inl (fil (fun _ => 1) (fun _ => 0) (szN p0)))), (b21_1, .inl (cA21, szN p0, .inl (fun _ => 0))), (b21_2, .inl (cA21, szN p0, .inl (fun _ => 0))), (b21_3, .inl (cA21, szN p0, .inl (fil (fun _ => 1) (fun _ => 0) (szN p0)))), (b21_4, .inl (cA21, szN p0, .inl (fun _ => 0)))]) hP hD [1] [0] rfl rfl (by decide) (by decide) hk1 hFc hP1 hD1
  have hK : va_K (dC, dI) vwCl [(cA21, .int)] s := hK1
  generalize H1 = H at hP hS ⊢
  have hP : va_P (dC, dI) vwCl ([(q, .inr (0, [.null, .null, .null, .int 0, .int 0, .int 0])), (q16, .inr (1, [.int (nI (szN p0)), .ref b21_0, .ref b21_1, .ref b21_2, .ref b21_3, .ref b21_4])), (b21_0, .inl (cA21, szN p0, .inl (fil (fun _ => 1) (fun _ => 0) (szN p0)))), (b21_1, .inl (cA21, szN p0, .inl (fun _ => 0))), (b21_2, .inl (cA21, szN p0, .inl (fun _ => 0))), (b21_3, .inl (cA21, szN p0, .inl (fil (fun _ => 1) (fun _ => 0) (szN p0)))), (b21_4, .inl (cA21, szN p0, .inl (fun _ => 0)))]) H := hP
  have hD : va_D A ([(q, .inr (0, [.null, .null, .null, .int 0, .int 0, .int 0])), (q16, .inr (1, [.int (nI (szN p0)), .ref b21_0, .ref b21_1, .ref b21_2, .ref b21_3, .ref b21_4])), (b21_0, .inl (cA21, szN p0, .inl (fil (fun _ => 1) (fun _ => 0) (szN p0)))), (b21_1, .inl (cA21, szN p0, .inl (fun _ => 0))), (b21_2, .inl (cA21, szN p0, .inl (fun _ => 0))), (b21_3, .inl (cA21, szN p0, .inl (fil (fun _ => 1) (fun _ => 0) (szN p0)))), (b21_4, .inl (cA21, szN p0, .inl (fun _ => 0)))]) := hD
  refine va_putF (D := (dC, dI)) (ci := 0) (v := .ref q16) (ty := (.object "DrawShares$Shares")) (C := RX0) (T := TX0) (N := 6) hx hb hts inX0 tyX0 tyX0_ok nmX0 hown hK hP hD hS 0 rfl rfl 0 (by decide) (hE.t m_143 rfl) (fun _ h9 => h9) rfl hin rfl (by decide +kernel) rfl rfl (Nat.le_of_ble_eq_true rfl) dX0_init_24 (fun H locs hP hD hS => ?_)
  have hP : va_P (dC, dI) vwCl ([(q, .inr (0, [.ref q16, .null, .null, .int 0, .int 0, .int 0])), (q16, .inr (1, [.int (nI (szN p0)), .ref b21_0, .ref b21_1, .ref b21_2, .ref b21_3, .ref b21_4])), (b21_0, .inl (cA21, szN p0, .inl (fil (fun _ => 1) (fun _ => 0) (szN p0)))), (b21_1, .inl (cA21, szN p0, .inl (fun _ => 0))), (b21_2, .inl (cA21, szN p0, .inl (fun _ => 0))), (b21_3, .inl (cA21, szN p0, .inl (fil (fun _ => 1) (fun _ => 0) (szN p0)))), (b21_4, .inl (cA21, szN p0, .inl (fun _ => 0)))]) H := hP
  have hD : va_D A ([(q, .inr (0, [.ref q16, .null, .null, .int 0, .int 0, .int 0])), (q16, .inr (1, [.int (nI (szN p0)), .ref b21_0, .ref b21_1, .ref b21_2, .ref b21_3, .ref b21_4])), (b21_0, .inl (cA21, szN p0, .inl (fil (fun _ => 1) (fun _ => 0) (szN p0)))), (b21_1, .inl (cA21, szN p0, .inl (fun _ => 0))), (b21_2, .inl (cA21, szN p0, .inl (fun _ => 0))), (b21_3, .inl (cA21, szN p0, .inl (fil (fun _ => 1) (fun _ => 0) (szN p0)))), (b21_4, .inl (cA21, szN p0, .inl (fun _ => 0)))]) := hD
  refine lv_aload_n hx hb dX0_init_27 rfl (lv_at hl 1 rfl) ?_
  refine va_new (ci := 2) (fs := [.null, .null, .int 0]) (C := RX2) (T := TX2) (N := 3) hx hb hts inX2 tyX2 tyX2_ok hown (hE.t m_85 rfl) (hE.t m_86 rfl) (hE.t m_25 rfl) hK hP hD hS hA rfl (fun j hj => by match j, hj with | 0, _ => rfl | 1, _ => rfl | 2, _ => rfl | j + 3, hj => exact absurd hj (by omega)) (by decide) (by decide) dX0_init_28 (fun q28 H hP hD hS => ?_)
  refine W.widen (k := 7) (n := 209) (by omega) (by omega) ?_
  have hP : va_P (dC, dI) vwCl ([(q, .inr (0, [.ref q16, .null, .null, .int 0, .int 0, .int 0])), (q16, .inr (1, [.int (nI (szN p0)), .ref b21_0, .ref b21_1, .ref b21_2, .ref b21_3, .ref b21_4])), (b21_0, .inl (cA21, szN p0, .inl (fil (fun _ => 1) (fun _ => 0) (szN p0)))), (b21_1, .inl (cA21, szN p0, .inl (fun _ => 0))), (b21_2, .inl (cA21, szN p0, .inl (fun _ => 0))), (b21_3, .inl (cA21, szN p0, .inl (fil (fun _ => 1) (fun _ => 0) (szN p0)))), (b21_4, .inl (cA21, szN p0, .inl (fun _ => 0))), (q28, .inr (2, [.null, .null, .int 0]))]) H := hP
  have hD : va_D A ([(q, .inr (0, [.ref q16, .null, .null, .int 0, .int 0, .int 0])), (q16, .inr (1, [.int (nI (szN p0)), .ref b21_0, .ref b21_1, .ref b21_2, .ref b21_3, .ref b21_4])), (b21_0, .inl (cA21, szN p0, .inl (fil (fun _ => 1) (fun _ => 0) (szN p0)))), (b21_1, .inl (cA21, szN p0, .inl (fun _ => 0))), (b21_2, .inl (cA21, szN p0, .inl (fun _ => 0))), (b21_3, .inl (cA21, szN p0, .inl (fil (fun _ => 1) (fun _ => 0) (szN p0)))), (b21_4, .inl (cA21, szN p0, .inl (fun _ => 0))), (q28, .inr (2, [.null, .null, .int 0]))]) := hD
  refine lv_dup hx hb dX0_init_31 rfl ?_
  have hPc := hP.sub (ws' := [(q28, .inr (2, [.null, .null, .int 0]))]) [7] rfl
  have hDc := hD.sub (ws' := [(q28, .inr (2, [.null, .null, .int 0]))]) [7] (by decide) rfl
  have hFc := va_free (wc := [(q28, .inr (2, [.null, .null, .int 0]))]) hD hS hA [7] rfl
  refine va_callv (va_runIN (As := []) (rest := [.ref q28, .ref q]) ⟨hx, hb, hml, hown, hts⟩ (c_X2_init l dC dI q28 _ ) ⟨va_cnB (host := "DrawShares") 0 hts gX0_init_X2_init rfl rfl rfl (hE.t0 m_87 rfl) (hE.t m_25 rfl) (by decide +kernel) ⟨(Nat.le_of_ble_eq_true rfl), (Nat.le_of_ble_eq_true rfl)⟩, rfl, hE.t m_88 rfl⟩ ⟨ev_blind, ev_give hPc hK hDc hE hS hFc⟩ rfl rfl hl.1 rfl (lv_room (Nat.le_of_ble_eq_true rfl)) dX0_init_32 ⟨by decide, by decide⟩) hS (fun q _ h => hFc q h) hFc (fun u t H1 locs ht hvm hw hB hz1 hk1 hS => ?_)
  obtain ⟨cA32, b32_0, b32_1⟩ := u
  obtain ⟨hP1, hK1, hD1⟩ := hB
  rw [ht] at hP1
  have hK1 := va_K.moved hvm.symm hK1
  obtain ⟨hP, hD⟩ := va_join (wr := [(q, .inr (0, [.ref q16, .null, .null, .int 0, .int 0, .int 0])), (q16, .inr (1, [.int (nI (szN p0)), .ref b21_0, .ref b21_1, .ref b21_2, .ref b21_3, .ref b21_4])), (b21_0, .inl (cA21, szN p0, .inl (fil (fun _ => 1) (fun _ => 0) (szN p0)))), (b21_1, .inl (cA21, szN p0, .inl (fun _ => 0))), (b21_2, .inl (cA21, szN p0, .inl (fun _ => 0))), (b21_3, .inl (cA21, szN p0, .inl (fil (fun _ => 1) (fun _ => 0) (szN p0)))), (b21_4, .inl (cA21, szN p0, .inl (fun _ => 0)))]) (w1 := [(q28, .inr (2, [.ref b32_0, .ref b32_1, .int (nI 0)])), (b32_0, .inl (cA32, 24, .inl (fun _ => 0))), (b32_1, .inl (cA32, 24, .inl (fun _ => 0)))]) hP hD [7] [0, 1, 2, 3, 4, 5, 6] rfl rfl (by decide) (by decide) hk1 hFc hP1 hD1
  have hK := hK.app hK1
  have h9 : cA21 = cA32 := cls_eq hK 0 1 rfl rfl
  subst h9
  have hK : va_K (dC, dI) vwCl [(cA21, .int)] s := hK.sub [0] rfl
  generalize H1 = H at hP hS ⊢
  have hP : va_P (dC, dI) vwCl ([(q, .inr (0, [.ref q16, .null, .null, .int 0, .int 0, .int 0])), (q16, .inr (1, [.int (nI (szN p0)), .ref b21_0, .ref b21_1, .ref b21_2, .ref b21_3, .ref b21_4])), (b21_0, .inl (cA21, szN p0, .inl (fil (fun _ => 1) (fun _ => 0) (szN p0)))), (b21_1, .inl (cA21, szN p0, .inl (fun _ => 0))), (b21_2, .inl (cA21, szN p0, .inl (fun _ => 0))), (b21_3, .inl (cA21, szN p0, .inl (fil (fun _ => 1) (fun _ => 0) (szN p0)))), (b21_4, .inl (cA21, szN p0, .inl (fun _ => 0))), (q28, .inr (2, [.ref b32_0, .ref b32_1, .int (nI 0)])), (b32_0, .inl (cA21, 24, .inl (fun _ => 0))), (b32_1, .inl (cA21, 24, .inl (fun _ => 0)))]) H := hP
  have hD : va_D A ([(q, .inr (0, [.ref q16, .null, .null, .int 0, .int 0, .int 0])), (q16, .inr (1, [.int (nI (szN p0)), .ref b21_0, .ref b21_1, .ref b21_2, .ref b21_3, .ref b21_4])), (b21_0, .inl (cA21, szN p0, .inl (fil (fun _ => 1) (fun _ => 0) (szN p0)))), (b21_1, .inl (cA21, szN p0, .inl (fun _ => 0))), (b21_2, .inl (cA21, szN p0, .inl (fun _ => 0))), (b21_3, .inl (cA21, szN p0, .inl (fil (fun _ => 1) (fun _ => 0) (szN p0)))), (b21_4, .inl (cA21, szN p0, .inl (fun _ => 0))), (q28, .inr (2, [.ref b32_0, .ref b32_1, .int (nI 0)])), (b32_0, .inl (cA21, 24, .inl (fun _ => 0))), (b32_1, .inl (cA21, 24, .inl (fun _ => 0)))]) := hD
  refine va_putF (D := (dC, dI)) (ci := 0) (v := .ref q28) (ty := (.object "DrawShares$Acts")) (C := RX0) (T := TX0) (N := 6) hx hb hts inX0 tyX0 tyX0_ok nmX0 hown hK hP hD hS 0 rfl rfl 1 (by decide) (hE.t m_144 rfl) (fun _ h9 => h9) rfl hin rfl (by decide +kernel) rfl rfl (Nat.le_of_ble_eq_true rfl) dX0_init_35 (fun H locs hP hD hS => ?_)
  have hP : va_P (dC, dI) vwCl ([(q, .inr (0, [.ref q16, .ref q28, .null, .int 0, .int 0, .int 0])), (q16, .inr (1, [.int (nI (szN p0)), .ref b21_0, .ref b21_1, .ref b21_2, .ref b21_3, .ref b21_4])), (b21_0, .inl (cA21, szN p0, .inl (fil (fun _ => 1) (fun _ => 0) (szN p0)))), (b21_1, .inl (cA21, szN p0, .inl (fun _ => 0))), (b21_2, .inl (cA21, szN p0, .inl (fun _ => 0))), (b21_3, .inl (cA21, szN p0, .inl (fil (fun _ => 1) (fun _ => 0) (szN p0)))), (b21_4, .inl (cA21, szN p0, .inl (fun _ => 0))), (q28, .inr (2, [.ref b32_0, .ref b32_1, .int (nI 0)])), (b32_0, .inl (cA21, 24, .inl (fun _ => 0))), (b32_1, .inl (cA21, 24, .inl (fun _ => 0)))]) H := hP
  have hD : va_D A ([(q, .inr (0, [.ref q16, .ref q28, .null, .int 0, .int 0, .int 0])), (q16, .inr (1, [.int (nI (szN p0)), .ref b21_0, .ref b21_1, .ref b21_2, .ref b21_3, .ref b21_4])), (b21_0, .inl (cA21, szN p0, .inl (fil (fun _ => 1) (fun _ => 0) (szN p0)))), (b21_1, .inl (cA21, szN p0, .inl (fun _ => 0))), (b21_2, .inl (cA21, szN p0, .inl (fun _ => 0))), (b21_3, .inl (cA21, szN p0, .inl (fil (fun _ => 1) (fun _ => 0) (szN p0)))), (b21_4, .inl (cA21, szN p0, .inl (fun _ => 0))), (q28, .inr (2, [.ref b32_0, .ref b32_1, .int (nI 0)])), (b32_0, .inl (cA21, 24, .inl (fun _ => 0))), (b32_1, .inl (cA21, 24, .inl (fun _ => 0)))]) := hD
  refine lv_aload_n hx hb dX0_init_38 rfl (lv_at hl 1 rfl) ?_
  refine va_new (ci := 3) (fs := [.null, .null, .null, .int 0, .long 0, .int 0, .int 0, .int 0]) (C := RX3) (T := TX3) (N := 8) hx hb hts inX3 tyX3 tyX3_ok hown (hE.t m_105 rfl) (hE.t m_106 rfl) (hE.t m_26 rfl) hK hP hD hS hA rfl (fun j hj => by match j, hj with | 0, _ => rfl | 1, _ => rfl | 2, _ => rfl | 3, _ => rfl | 4, _ => rfl | 5, _ => rfl | 6, _ => rfl | 7, _ => rfl | j + 8, hj => exact absurd hj (by omega)) (by decide) (by decide) dX0_init_39 (fun q39 H hP hD hS => ?_)
  refine W.widen (k := 10) (n := 265) (by omega) (by omega) ?_
  have hP : va_P (dC, dI) vwCl ([(q, .inr (0, [.ref q16, .ref q28, .null, .int 0, .int 0, .int 0])), (q16, .inr (1, [.int (nI (szN p0)), .ref b21_0, .ref b21_1, .ref b21_2, .ref b21_3, .ref b21_4])), (b21_0, .inl (cA21, szN p0, .inl (fil (fun _ => 1) (fun _ => 0) (szN p0)))), (b21_1, .inl (cA21, szN p0, .inl (fun _ => 0))), (b21_2, .inl (cA21, szN p0, .inl (fun _ => 0))), (b21_3, .inl (cA21, szN p0, .inl (fil (fun _ => 1) (fun _ => 0) (szN p0)))), (b21_4, .inl (cA21, szN p0, .inl (fun _ => 0))), (q28, .inr (2, [.ref b32_0, .ref b32_1, .int (nI 0)])), (b32_0, .inl (cA21, 24, .inl (fun _ => 0))), (b32_1, .inl (cA21, 24, .inl (fun _ => 0))), (q39, .inr (3, [.null, .null, .null, .int 0, .long 0, .int 0, .int 0, .int 0]))]) H := hP
  have hD : va_D A ([(q, .inr (0, [.ref q16, .ref q28, .null, .int 0, .int 0, .int 0])), (q16, .inr (1, [.int (nI (szN p0)), .ref b21_0, .ref b21_1, .ref b21_2, .ref b21_3, .ref b21_4])), (b21_0, .inl (cA21, szN p0, .inl (fil (fun _ => 1) (fun _ => 0) (szN p0)))), (b21_1, .inl (cA21, szN p0, .inl (fun _ => 0))), (b21_2, .inl (cA21, szN p0, .inl (fun _ => 0))), (b21_3, .inl (cA21, szN p0, .inl (fil (fun _ => 1) (fun _ => 0) (szN p0)))), (b21_4, .inl (cA21, szN p0, .inl (fun _ => 0))), (q28, .inr (2, [.ref b32_0, .ref b32_1, .int (nI 0)])), (b32_0, .inl (cA21, 24, .inl (fun _ => 0))), (b32_1, .inl (cA21, 24, .inl (fun _ => 0))), (q39, .inr (3, [.null, .null, .null, .int 0, .long 0, .int 0, .int 0, .int 0]))]) := hD
  refine lv_dup hx hb dX0_init_42 rfl ?_
  refine lv_iload_n hx hb dX0_init_43 rfl (lv_at hl 0 rfl) ?_
  have hPc := hP.sub (ws' := [(q39, .inr (3, [.null, .null, .null, .int 0, .long 0, .int 0, .int 0, .int 0]))]) [10] rfl
  have hDc := hD.sub (ws' := [(q39, .inr (3, [.null, .null, .null, .int 0, .long 0, .int 0, .int 0, .int 0]))]) [10] (by decide) rfl
  have hFc := va_free (wc := [(q39, .inr (3, [.null, .null, .null, .int 0, .long 0, .int 0, .int 0, .int 0]))]) hD hS hA [10] rfl
  refine va_callv (va_runIN (As := [.int (nI (szN p0))]) (rest := [.ref q39, .ref q]) ⟨hx, hb, hml, hown, hts⟩ (c_X3_init l dC dI q39 _ (szN p0) hn2) ⟨va_cnB (host := "DrawShares") 1 hts gX0_init_X3_init rfl rfl rfl (hE.t0 m_107 rfl) (hE.t m_26 rfl) (by decide +kernel) ⟨(Nat.le_of_ble_eq_true rfl), (Nat.le_of_ble_eq_true rfl)⟩, rfl, hE.t m_108 rfl⟩ ⟨ev_blind, ev_give hPc hK hDc hE hS hFc⟩ rfl rfl hl.1 rfl (lv_room (Nat.le_of_ble_eq_true rfl)) dX0_init_44 ⟨by decide, by decide⟩) hS (fun q _ h => hFc q h) hFc (fun u t H1 locs ht hvm hw hB hz1 hk1 hS => ?_)
  obtain ⟨cA44, b44_0, b44_1, b44_2⟩ := u
  obtain ⟨hP1, hK1, hD1⟩ := hB
  rw [ht] at hP1
  have hK1 := va_K.moved hvm.symm hK1
  obtain ⟨hP, hD⟩ := va_join (wr := [(q, .inr (0, [.ref q16, .ref q28, .null, .int 0, .int 0, .int 0])), (q16, .inr (1, [.int (nI (szN p0)), .ref b21_0, .ref b21_1, .ref b21_2, .ref b21_3, .ref b21_4])), (b21_0, .inl (cA21, szN p0, .inl (fil (fun _ => 1) (fun _ => 0) (szN p0)))), (b21_1, .inl (cA21, szN p0, .inl (fun _ => 0))), (b21_2, .inl (cA21, szN p0, .inl (fun _ => 0))), (b21_3, .inl (cA21, szN p0, .inl (fil (fun _ => 1) (fun _ => 0) (szN p0)))), (b21_4, .inl (cA21, szN p0, .inl (fun _ => 0))), (q28, .inr (2, [.ref b32_0, .ref b32_1, .int (nI 0)])), (b32_0, .inl (cA21, 24, .inl (fun _ => 0))), (b32_1, .inl (cA21, 24, .inl (fun _ => 0)))]) (w1 := [(q39, .inr (3, [.ref b44_0, .ref b44_1, .ref b44_2, .int 0, .long 0, .int 0, .int 0, .int 0])), (b44_0, .inl (cA44, szN p0, .inl (fun _ => 0))), (b44_1, .inl (cA44, szN p0, .inl (fun _ => 0))), (b44_2, .inl (cA44, 24, .inl (fun _ => 0)))]) hP hD [10] [0, 1, 2, 3, 4, 5, 6, 7, 8, 9] rfl rfl (by decide) (by decide) hk1 hFc hP1 hD1
  have hK := hK.app hK1
  have h9 : cA21 = cA44 := cls_eq hK 0 1 rfl rfl
  subst h9
  have hK : va_K (dC, dI) vwCl [(cA21, .int)] s := hK.sub [0] rfl
  generalize H1 = H at hP hS ⊢
  have hP : va_P (dC, dI) vwCl ([(q, .inr (0, [.ref q16, .ref q28, .null, .int 0, .int 0, .int 0])), (q16, .inr (1, [.int (nI (szN p0)), .ref b21_0, .ref b21_1, .ref b21_2, .ref b21_3, .ref b21_4])), (b21_0, .inl (cA21, szN p0, .inl (fil (fun _ => 1) (fun _ => 0) (szN p0)))), (b21_1, .inl (cA21, szN p0, .inl (fun _ => 0))), (b21_2, .inl (cA21, szN p0, .inl (fun _ => 0))), (b21_3, .inl (cA21, szN p0, .inl (fil (fun _ => 1) (fun _ => 0) (szN p0)))), (b21_4, .inl (cA21, szN p0, .inl (fun _ => 0))), (q28, .inr (2, [.ref b32_0, .ref b32_1, .int (nI 0)])), (b32_0, .inl (cA21, 24, .inl (fun _ => 0))), (b32_1, .inl (cA21, 24, .inl (fun _ => 0))), (q39, .inr (3, [.ref b44_0, .ref b44_1, .ref b44_2, .int 0, .long 0, .int 0, .int 0, .int 0])), (b44_0, .inl (cA21, szN p0, .inl (fun _ => 0))), (b44_1, .inl (cA21, szN p0, .inl (fun _ => 0))), (b44_2, .inl (cA21, 24, .inl (fun _ => 0)))]) H := hP
  have hD : va_D A ([(q, .inr (0, [.ref q16, .ref q28, .null, .int 0, .int 0, .int 0])), (q16, .inr (1, [.int (nI (szN p0)), .ref b21_0, .ref b21_1, .ref b21_2, .ref b21_3, .ref b21_4])), (b21_0, .inl (cA21, szN p0, .inl (fil (fun _ => 1) (fun _ => 0) (szN p0)))), (b21_1, .inl (cA21, szN p0, .inl (fun _ => 0))), (b21_2, .inl (cA21, szN p0, .inl (fun _ => 0))), (b21_3, .inl (cA21, szN p0, .inl (fil (fun _ => 1) (fun _ => 0) (szN p0)))), (b21_4, .inl (cA21, szN p0, .inl (fun _ => 0))), (q28, .inr (2, [.ref b32_0, .ref b32_1, .int (nI 0)])), (b32_0, .inl (cA21, 24, .inl (fun _ => 0))), (b32_1, .inl (cA21, 24, .inl (fun _ => 0))), (q39, .inr (3, [.ref b44_0, .ref b44_1, .ref b44_2, .int 0, .long 0, .int 0, .int 0, .int 0])), (b44_0, .inl (cA21, szN p0, .inl (fun _ => 0))), (b44_1, .inl (cA21, szN p0, .inl (fun _ => 0))), (b44_2, .inl (cA21, 24, .inl (fun _ => 0)))]) := hD
  refine va_putF (D := (dC, dI)) (ci := 0) (v := .ref q39) (ty := (.object "DrawShares$Told")) (C := RX0) (T := TX0) (N := 6) hx hb hts inX0 tyX0 tyX0_ok nmX0 hown hK hP hD hS 0 rfl rfl 2 (by decide) (hE.t m_145 rfl) (fun _ h9 => h9) rfl hin rfl (by decide +kernel) rfl rfl (Nat.le_of_ble_eq_true rfl) dX0_init_47 (fun H locs hP hD hS => ?_)
  have hP : va_P (dC, dI) vwCl ([(q, .inr (0, [.ref q16, .ref q28, .ref q39, .int 0, .int 0, .int 0])), (q16, .inr (1, [.int (nI (szN p0)), .ref b21_0, .ref b21_1, .ref b21_2, .ref b21_3, .ref b21_4])), (b21_0, .inl (cA21, szN p0, .inl (fil (fun _ => 1) (fun _ => 0) (szN p0)))), (b21_1, .inl (cA21, szN p0, .inl (fun _ => 0))), (b21_2, .inl (cA21, szN p0, .inl (fun _ => 0))), (b21_3, .inl (cA21, szN p0, .inl (fil (fun _ => 1) (fun _ => 0) (szN p0)))), (b21_4, .inl (cA21, szN p0, .inl (fun _ => 0))), (q28, .inr (2, [.ref b32_0, .ref b32_1, .int (nI 0)])), (b32_0, .inl (cA21, 24, .inl (fun _ => 0))), (b32_1, .inl (cA21, 24, .inl (fun _ => 0))), (q39, .inr (3, [.ref b44_0, .ref b44_1, .ref b44_2, .int 0, .long 0, .int 0, .int 0, .int 0])), (b44_0, .inl (cA21, szN p0, .inl (fun _ => 0))), (b44_1, .inl (cA21, szN p0, .inl (fun _ => 0))), (b44_2, .inl (cA21, 24, .inl (fun _ => 0)))]) H := hP
  have hD : va_D A ([(q, .inr (0, [.ref q16, .ref q28, .ref q39, .int 0, .int 0, .int 0])), (q16, .inr (1, [.int (nI (szN p0)), .ref b21_0, .ref b21_1, .ref b21_2, .ref b21_3, .ref b21_4])), (b21_0, .inl (cA21, szN p0, .inl (fil (fun _ => 1) (fun _ => 0) (szN p0)))), (b21_1, .inl (cA21, szN p0, .inl (fun _ => 0))), (b21_2, .inl (cA21, szN p0, .inl (fun _ => 0))), (b21_3, .inl (cA21, szN p0, .inl (fil (fun _ => 1) (fun _ => 0) (szN p0)))), (b21_4, .inl (cA21, szN p0, .inl (fun _ => 0))), (q28, .inr (2, [.ref b32_0, .ref b32_1, .int (nI 0)])), (b32_0, .inl (cA21, 24, .inl (fun _ => 0))), (b32_1, .inl (cA21, 24, .inl (fun _ => 0))), (q39, .inr (3, [.ref b44_0, .ref b44_1, .ref b44_2, .int 0, .long 0, .int 0, .int 0, .int 0])), (b44_0, .inl (cA21, szN p0, .inl (fun _ => 0))), (b44_1, .inl (cA21, szN p0, .inl (fun _ => 0))), (b44_2, .inl (cA21, 24, .inl (fun _ => 0)))]) := hD
  refine lv_aload_n hx hb dX0_init_50 rfl (lv_at hl 1 rfl) ?_
  refine lv_iconst (v := (-1)) hx hb dX0_init_51 (by decide) ?_
  refine va_put (D := (dC, dI)) (ci := 0) (v := .int (-1)) (ty := .int) (C := RX0) (T := TX0) (N := 6) hx hb hts inX0 tyX0 tyX0_ok nmX0 hown hK hP hD hS 0 rfl rfl 3 (by decide) (hE.t m_146 rfl) (fun _ h9 => h9) rfl (by decide +kernel) rfl rfl (Nat.le_of_ble_eq_true rfl) dX0_init_52 (fun H locs hP hD hS => ?_)
  have hP : va_P (dC, dI) vwCl ([(q, .inr (0, [.ref q16, .ref q28, .ref q39, .int (-1), .int 0, .int 0])), (q16, .inr (1, [.int (nI (szN p0)), .ref b21_0, .ref b21_1, .ref b21_2, .ref b21_3, .ref b21_4])), (b21_0, .inl (cA21, szN p0, .inl (fil (fun _ => 1) (fun _ => 0) (szN p0)))), (b21_1, .inl (cA21, szN p0, .inl (fun _ => 0))), (b21_2, .inl (cA21, szN p0, .inl (fun _ => 0))), (b21_3, .inl (cA21, szN p0, .inl (fil (fun _ => 1) (fun _ => 0) (szN p0)))), (b21_4, .inl (cA21, szN p0, .inl (fun _ => 0))), (q28, .inr (2, [.ref b32_0, .ref b32_1, .int (nI 0)])), (b32_0, .inl (cA21, 24, .inl (fun _ => 0))), (b32_1, .inl (cA21, 24, .inl (fun _ => 0))), (q39, .inr (3, [.ref b44_0, .ref b44_1, .ref b44_2, .int 0, .long 0, .int 0, .int 0, .int 0])), (b44_0, .inl (cA21, szN p0, .inl (fun _ => 0))), (b44_1, .inl (cA21, szN p0, .inl (fun _ => 0))), (b44_2, .inl (cA21, 24, .inl (fun _ => 0)))]) H := hP
  have hD : va_D A ([(q, .inr (0, [.ref q16, .ref q28, .ref q39, .int (-1), .int 0, .int 0])), (q16, .inr (1, [.int (nI (szN p0)), .ref b21_0, .ref b21_1, .ref b21_2, .ref b21_3, .ref b21_4])), (b21_0, .inl (cA21, szN p0, .inl (fil (fun _ => 1) (fun _ => 0) (szN p0)))), (b21_1, .inl (cA21, szN p0, .inl (fun _ => 0))), (b21_2, .inl (cA21, szN p0, .inl (fun _ => 0))), (b21_3, .inl (cA21, szN p0, .inl (fil (fun _ => 1) (fun _ => 0) (szN p0)))), (b21_4, .inl (cA21, szN p0, .inl (fun _ => 0))), (q28, .inr (2, [.ref b32_0, .ref b32_1, .int (nI 0)])), (b32_0, .inl (cA21, 24, .inl (fun _ => 0))), (b32_1, .inl (cA21, 24, .inl (fun _ => 0))), (q39, .inr (3, [.ref b44_0, .ref b44_1, .ref b44_2, .int 0, .long 0, .int 0, .int 0, .int 0])), (b44_0, .inl (cA21, szN p0, .inl (fun _ => 0))), (b44_1, .inl (cA21, szN p0, .inl (fun _ => 0))), (b44_2, .inl (cA21, 24, .inl (fun _ => 0)))]) := hD
  have hP := hP.sub (ws' := [(q, .inr (0, [.ref q16, .ref q28, .ref q39, .int (-1), .int 0, .int 0])), (q16, .inr (1, [.int (nI (szN p0)), .ref b21_0, .ref b21_1, .ref b21_2, .ref b21_3, .ref b21_4])), (q28, .inr (2, [.ref b32_0, .ref b32_1, .int (nI 0)])), (q39, .inr (3, [.ref b44_0, .ref b44_1, .ref b44_2, .int 0, .long 0, .int 0, .int 0, .int 0])), (b21_0, .inl (cA21, szN p0, .inl (fil (fun _ => 1) (fun _ => 0) (szN p0)))), (b21_1, .inl (cA21, szN p0, .inl (fun _ => 0))), (b21_2, .inl (cA21, szN p0, .inl (fun _ => 0))), (b21_3, .inl (cA21, szN p0, .inl (fil (fun _ => 1) (fun _ => 0) (szN p0)))), (b21_4, .inl (cA21, szN p0, .inl (fun _ => 0))), (b32_0, .inl (cA21, 24, .inl (fun _ => 0))), (b32_1, .inl (cA21, 24, .inl (fun _ => 0))), (b44_0, .inl (cA21, szN p0, .inl (fun _ => 0))), (b44_1, .inl (cA21, szN p0, .inl (fun _ => 0))), (b44_2, .inl (cA21, 24, .inl (fun _ => 0)))]) [0, 1, 7, 10, 2, 3, 4, 5, 6, 8, 9, 11, 12, 13] rfl
  have hD := hD.sub (ws' := [(q, .inr (0, [.ref q16, .ref q28, .ref q39, .int (-1), .int 0, .int 0])), (q16, .inr (1, [.int (nI (szN p0)), .ref b21_0, .ref b21_1, .ref b21_2, .ref b21_3, .ref b21_4])), (q28, .inr (2, [.ref b32_0, .ref b32_1, .int (nI 0)])), (q39, .inr (3, [.ref b44_0, .ref b44_1, .ref b44_2, .int 0, .long 0, .int 0, .int 0, .int 0])), (b21_0, .inl (cA21, szN p0, .inl (fil (fun _ => 1) (fun _ => 0) (szN p0)))), (b21_1, .inl (cA21, szN p0, .inl (fun _ => 0))), (b21_2, .inl (cA21, szN p0, .inl (fun _ => 0))), (b21_3, .inl (cA21, szN p0, .inl (fil (fun _ => 1) (fun _ => 0) (szN p0)))), (b21_4, .inl (cA21, szN p0, .inl (fun _ => 0))), (b32_0, .inl (cA21, 24, .inl (fun _ => 0))), (b32_1, .inl (cA21, 24, .inl (fun _ => 0))), (b44_0, .inl (cA21, szN p0, .inl (fun _ => 0))), (b44_1, .inl (cA21, szN p0, .inl (fun _ => 0))), (b44_2, .inl (cA21, 24, .inl (fun _ => 0)))]) [0, 1, 7, 10, 2, 3, 4, 5, 6, 8, 9, 11, 12, 13] (by decide) rfl
  refine W.widen (k := 13) (n := 369) (by omega) (by omega) ?_
  exact W.vret hx hb hr (fun t ht hW => ⟨⟨(cA21, fun k => [q, q16, q28, q39, b21_0, b21_1, b21_2, b21_3, b21_4, b32_0, b32_1, b44_0, b44_1, b44_2].getD k 0), rfl, rfl, by rw [ht]; exact hP, va_K.moved hW.alike hK, hD⟩, hS.F ht⟩) hS.2.2 dX0_init_55
