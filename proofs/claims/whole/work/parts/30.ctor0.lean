set_option maxHeartbeats 4000000 in
set_option maxRecDepth 100000 in
/-- Shares(n) -/
theorem c_X1_init (l : Launch) (dC : Nat → ClassId) (dI : Nat → Nat → Nat) (q : Nat) (sz : Nat) (n : Nat) (hn : n ≤ 40) : Met l yX1_init wsX1_init ({ frames := 1, cells := 5, slots := 200, locals := 40 }) (va_Pc [.ref q, .int (nI n)] (PJ dC dI [(q, .inr (1, [.int 0, .null, .null, .null, .null, .null]))] sz)) (va_Qv (fun (u : ClassId × Nat × Nat × Nat × Nat × Nat) => True) (fun (u : ClassId × Nat × Nat × Nat × Nat × Nat) t => va_P (dC, dI) vwCl [(q, .inr (1, [.int (nI n), .ref u.2.1, .ref u.2.2.1, .ref u.2.2.2.1, .ref u.2.2.2.2.1, .ref u.2.2.2.2.2])), (u.2.1, .inl (u.1, n, .inl (fil (fun _ => 1) (fun _ => 0) n))), (u.2.2.1, .inl (u.1, n, .inl (fun _ => 0))), (u.2.2.2.1, .inl (u.1, n, .inl (fun _ => 0))), (u.2.2.2.2.1, .inl (u.1, n, .inl (fil (fun _ => 1) (fun _ => 0) n))), (u.2.2.2.2.2, .inl (u.1, n, .inl (fun _ => 0)))] t.heap ∧ va_K (dC, dI) vwCl [(u.1, .int)] t ∧ va_D (va_A [(q, .inr (1, [.int 0, .null, .null, .null, .null, .null]))] sz) [(q, .inr (1, [.int (nI n), .ref u.2.1, .ref u.2.2.1, .ref u.2.2.2.1, .ref u.2.2.2.2.1, .ref u.2.2.2.2.2])), (u.2.1, .inl (u.1, n, .inl (fil (fun _ => 1) (fun _ => 0) n))), (u.2.2.1, .inl (u.1, n, .inl (fun _ => 0))), (u.2.2.2.1, .inl (u.1, n, .inl (fun _ => 0))), (u.2.2.2.2.1, .inl (u.1, n, .inl (fil (fun _ => 1) (fun _ => 0) n))), (u.2.2.2.2.2, .inl (u.1, n, .inl (fun _ => 0)))]) (va_A [(q, .inr (1, [.int 0, .null, .null, .null, .null, .null]))] sz)) 5 200 (va_A [(q, .inr (1, [.int 0, .null, .null, .null, .null, .null]))] sz) := by
  refine Met.ofW (cc := cX1_init) (maxL := 2) (ret := none) (by decide) rfl ?_
  intro p e s m args below meth c s₁ B hml hv
  obtain ⟨rfl, hsz, hP, hK, hD0, hE⟩ := hv
  have hx := B.exec
  have hb := B.bytes
  have hr := B.returns
  have hown : s.vm.findClass RX1 = some m.cls := findClass_of_methodNamed B.named
  have hlocks := B.notSynchronized
  have hin : meth.name = "<init>" := (name_of_methodNamed B.named B.method).1
  subst hsz
  have hD := hD0.self (sz := s.heap.size)
  generalize hAe : va_A [(q, .inr (1, [.int 0, .null, .null, .null, .null, .null]))] s.heap.size = A at hD hE ⊢
  have hts := hE.ts (args := ([.ref q, .int (nI n)] : List Value).toArray)
  have hA : ∀ q : Nat, s.heap.size ≤ q → A q := fun q h => by rw [← hAe]; exact Or.inr h
  have hS : va_S A s.heap s.heap [] := va_S.rf
  have hP : va_P (dC, dI) vwCl ([(q, .inr (1, [.int 0, .null, .null, .null, .null, .null]))]) s.heap := hP
  have hl := lv_entry ([.ref q, .int (nI n)]) (n := 2) (Nat.le_of_ble_eq_true rfl)
  rw [lg_entry_eq]
  generalize (lg_sl ([.ref q, .int (nI n)]) ++ List.replicate (2 - (lg_sl ([.ref q, .int (nI n)])).length) Slot.unset).toArray = ls at hl ⊢
  have hl : lv_has ls 2 [(0, .ref q), (1, .int (nI n))] := hl
  refine lv_aload_n hx hb dX1_init_0 rfl (lv_at hl 0 rfl) ?_
  refine W.objInit hx hb hown (hE.t m_53 rfl) (hE.t m_40 rfl) (hE.t m_41 rfl) rfl (by rw [hml]; exact hl.1) rfl dX1_init_1 (Nat.le_of_ble_eq_true rfl) (Nat.le_of_ble_eq_true rfl) ?_
  refine W.eq (g2 := F0 m 4 ls []) rfl ?_
  refine lv_aload_n hx hb dX1_init_4 rfl (lv_at hl 0 rfl) ?_
  refine lv_iload_n hx hb dX1_init_5 rfl (lv_at hl 1 rfl) ?_
  refine va_putF (D := (dC, dI)) (ci := 1) (v := .int (nI n)) (ty := .int) (C := RX1) (T := TX1) (N := 6) hx hb hts inX1 tyX1 tyX1_ok nmX1 hown hK hP hD hS 0 rfl rfl 0 (by decide) (hE.t m_57 rfl) (fun _ h9 => h9) rfl hin rfl (by decide +kernel) rfl rfl (Nat.le_of_ble_eq_true rfl) dX1_init_6 (fun H locs hP hD hS => ?_)
  have hP : va_P (dC, dI) vwCl ([(q, .inr (1, [.int (nI n), .null, .null, .null, .null, .null]))]) H := hP
  have hD : va_D A ([(q, .inr (1, [.int (nI n), .null, .null, .null, .null, .null]))]) := hD
  refine lv_aload_n hx hb dX1_init_9 rfl (lv_at hl 0 rfl) ?_
  refine lv_iload_n hx hb dX1_init_10 rfl (lv_at hl 1 rfl) ?_
  refine va_newa (atype := .int) (ty := .int) (n := (nI n)) (N' := n) (a0 := (n, .inl (fun _ => 0))) hx hb (hE.t m_84 rfl) rfl hK hP hD hS hA (ha0 n) (nI_pos (by omega)) (nI_clamp (by omega)) (by show n * 4 ≤ 536870912; omega) (by decide) (by show 0 + n ≤ 200; omega) dX1_init_11 (fun q11 cA11 H hK hP hD hS => ?_)
  refine W.widen (k := 1) (n := 40) (by omega) (by omega) ?_
  have hK : va_K (dC, dI) vwCl [(cA11, .int)] s := hK
  have hP : va_P (dC, dI) vwCl ([(q, .inr (1, [.int (nI n), .null, .null, .null, .null, .null])), (q11, .inl (cA11, n, .inl (fun _ => 0)))]) H := hP
  have hD : va_D A ([(q, .inr (1, [.int (nI n), .null, .null, .null, .null, .null])), (q11, .inl (cA11, n, .inl (fun _ => 0)))]) := hD
  refine va_putF (D := (dC, dI)) (ci := 1) (v := .ref q11) (ty := (.array .int)) (C := RX1) (T := TX1) (N := 6) hx hb hts inX1 tyX1 tyX1_ok nmX1 hown hK hP hD hS 0 rfl rfl 1 (by decide) (hE.t m_60 rfl) (fun _ h9 => h9) rfl hin rfl (by decide +kernel) rfl rfl (Nat.le_of_ble_eq_true rfl) dX1_init_13 (fun H locs hP hD hS => ?_)
  have hP : va_P (dC, dI) vwCl ([(q, .inr (1, [.int (nI n), .ref q11, .null, .null, .null, .null])), (q11, .inl (cA11, n, .inl (fun _ => 0)))]) H := hP
  have hD : va_D A ([(q, .inr (1, [.int (nI n), .ref q11, .null, .null, .null, .null])), (q11, .inl (cA11, n, .inl (fun _ => 0)))]) := hD
  refine lv_aload_n hx hb dX1_init_16 rfl (lv_at hl 0 rfl) ?_
  refine lv_iload_n hx hb dX1_init_17 rfl (lv_at hl 1 rfl) ?_
  refine va_newa (atype := .int) (ty := .int) (n := (nI n)) (N' := n) (a0 := (n, .inl (fun _ => 0))) hx hb (hE.t m_84 rfl) rfl hK hP hD hS hA (ha0 n) (nI_pos (by omega)) (nI_clamp (by omega)) (by show n * 4 ≤ 536870912; omega) (by decide) (by show 40 + n ≤ 200; omega) dX1_init_18 (fun q18 cA18 H hK hP hD hS => ?_)
  refine W.widen (k := 2) (n := 80) (by omega) (by omega) ?_
  have h9 : cA11 = cA18 := cls_eq hK 0 1 rfl rfl
  subst h9
  have hK : va_K (dC, dI) vwCl [(cA11, .int)] s := hK.sub [0] rfl
  have hP : va_P (dC, dI) vwCl ([(q, .inr (1, [.int (nI n), .ref q11, .null, .null, .null, .null])), (q11, .inl (cA11, n, .inl (fun _ => 0))), (q18, .inl (cA11, n, .inl (fun _ => 0)))]) H := hP
  have hD : va_D A ([(q, .inr (1, [.int (nI n), .ref q11, .null, .null, .null, .null])), (q11, .inl (cA11, n, .inl (fun _ => 0))), (q18, .inl (cA11, n, .inl (fun _ => 0)))]) := hD
  refine va_putF (D := (dC, dI)) (ci := 1) (v := .ref q18) (ty := (.array .int)) (C := RX1) (T := TX1) (N := 6) hx hb hts inX1 tyX1 tyX1_ok nmX1 hown hK hP hD hS 0 rfl rfl 2 (by decide) (hE.t m_62 rfl) (fun _ h9 => h9) rfl hin rfl (by decide +kernel) rfl rfl (Nat.le_of_ble_eq_true rfl) dX1_init_20 (fun H locs hP hD hS => ?_)
  have hP : va_P (dC, dI) vwCl ([(q, .inr (1, [.int (nI n), .ref q11, .ref q18, .null, .null, .null])), (q11, .inl (cA11, n, .inl (fun _ => 0))), (q18, .inl (cA11, n, .inl (fun _ => 0)))]) H := hP
  have hD : va_D A ([(q, .inr (1, [.int (nI n), .ref q11, .ref q18, .null, .null, .null])), (q11, .inl (cA11, n, .inl (fun _ => 0))), (q18, .inl (cA11, n, .inl (fun _ => 0)))]) := hD
  refine lv_aload_n hx hb dX1_init_23 rfl (lv_at hl 0 rfl) ?_
  refine lv_iload_n hx hb dX1_init_24 rfl (lv_at hl 1 rfl) ?_
  refine va_newa (atype := .int) (ty := .int) (n := (nI n)) (N' := n) (a0 := (n, .inl (fun _ => 0))) hx hb (hE.t m_84 rfl) rfl hK hP hD hS hA (ha0 n) (nI_pos (by omega)) (nI_clamp (by omega)) (by show n * 4 ≤ 536870912; omega) (by decide) (by show 80 + n ≤ 200; omega) dX1_init_25 (fun q25 cA25 H hK hP hD hS => ?_)
  refine W.widen (k := 3) (n := 120) (by omega) (by omega) ?_
  have h9 : cA11 = cA25 := cls_eq hK 0 1 rfl rfl
  subst h9
  have hK : va_K (dC, dI) vwCl [(cA11, .int)] s := hK.sub [0] rfl
  have hP : va_P (dC, dI) vwCl ([(q, .inr (1, [.int (nI n), .ref q11, .ref q18, .null, .null, .null])), (q11, .inl (cA11, n, .inl (fun _ => 0))), (q18, .inl (cA11, n, .inl (fun _ => 0))), (q25, .inl (cA11, n, .inl (fun _ => 0)))]) H := hP
  have hD : va_D A ([(q, .inr (1, [.int (nI n), .ref q11, .ref q18, .null, .null, .null])), (q11, .inl (cA11, n, .inl (fun _ => 0))), (q18, .inl (cA11, n, .inl (fun _ => 0))), (q25, .inl (cA11, n, .inl (fun _ => 0)))]) := hD
  refine va_putF (D := (dC, dI)) (ci := 1) (v := .ref q25) (ty := (.array .int)) (C := RX1) (T := TX1) (N := 6) hx hb hts inX1 tyX1 tyX1_ok nmX1 hown hK hP hD hS 0 rfl rfl 3 (by decide) (hE.t m_64 rfl) (fun _ h9 => h9) rfl hin rfl (by decide +kernel) rfl rfl (Nat.le_of_ble_eq_true rfl) dX1_init_27 (fun H locs hP hD hS => ?_)
  have hP : va_P (dC, dI) vwCl ([(q, .inr (1, [.int (nI n), .ref q11, .ref q18, .ref q25, .null, .null])), (q11, .inl (cA11, n, .inl (fun _ => 0))), (q18, .inl (cA11, n, .inl (fun _ => 0))), (q25, .inl (cA11, n, .inl (fun _ => 0)))]) H := hP
  have hD : va_D A ([(q, .inr (1, [.int (nI n), .ref q11, .ref q18, .ref q25, .null, .null])), (q11, .inl (cA11, n, .inl (fun _ => 0))), (q18, .inl (cA11, n, .inl (fun _ => 0))), (q25, .inl (cA11, n, .inl (fun _ => 0)))]) := hD
  refine lv_aload_n hx hb dX1_init_30 rfl (lv_at hl 0 rfl) ?_
  refine lv_iload_n hx hb dX1_init_31 rfl (lv_at hl 1 rfl) ?_
  refine va_newa (atype := .int) (ty := .int) (n := (nI n)) (N' := n) (a0 := (n, .inl (fun _ => 0))) hx hb (hE.t m_84 rfl) rfl hK hP hD hS hA (ha0 n) (nI_pos (by omega)) (nI_clamp (by omega)) (by show n * 4 ≤ 536870912; omega) (by decide) (by show 120 + n ≤ 200; omega) dX1_init_32 (fun q32 cA32 H hK hP hD hS => ?_)
  refine W.widen (k := 4) (n := 160) (by omega) (by omega) ?_
  have h9 : cA11 = cA32 := cls_eq hK 0 1 rfl rfl
  subst h9
  have hK : va_K (dC, dI) vwCl [(cA11, .int)] s := hK.sub [0] rfl
  have hP : va_P (dC, dI) vwCl ([(q, .inr (1, [.int (nI n), .ref q11, .ref q18, .ref q25, .null, .null])), (q11, .inl (cA11, n, .inl (fun _ => 0))), (q18, .inl (cA11, n, .inl (fun _ => 0))), (q25, .inl (cA11, n, .inl (fun _ => 0))), (q32, .inl (cA11, n, .inl (fun _ => 0)))]) H := hP
  have hD : va_D A ([(q, .inr (1, [.int (nI n), .ref q11, .ref q18, .ref q25, .null, .null])), (q11, .inl (cA11, n, .inl (fun _ => 0))), (q18, .inl (cA11, n, .inl (fun _ => 0))), (q25, .inl (cA11, n, .inl (fun _ => 0))), (q32, .inl (cA11, n, .inl (fun _ => 0)))]) := hD
  refine va_putF (D := (dC, dI)) (ci := 1) (v := .ref q32) (ty := (.array .int)) (C := RX1) (T := TX1) (N := 6) hx hb hts inX1 tyX1 tyX1_ok nmX1 hown hK hP hD hS 0 rfl rfl 4 (by decide) (hE.t m_66 rfl) (fun _ h9 => h9) rfl hin rfl (by decide +kernel) rfl rfl (Nat.le_of_ble_eq_true rfl) dX1_init_34 (fun H locs hP hD hS => ?_)
  have hP : va_P (dC, dI) vwCl ([(q, .inr (1, [.int (nI n), .ref q11, .ref q18, .ref q25, .ref q32, .null])), (q11, .inl (cA11, n, .inl (fun _ => 0))), (q18, .inl (cA11, n, .inl (fun _ => 0))), (q25, .inl (cA11, n, .inl (fun _ => 0))), (q32, .inl (cA11, n, .inl (fun _ => 0)))]) H := hP
  have hD : va_D A ([(q, .inr (1, [.int (nI n), .ref q11, .ref q18, .ref q25, .ref q32, .null])), (q11, .inl (cA11, n, .inl (fun _ => 0))), (q18, .inl (cA11, n, .inl (fun _ => 0))), (q25, .inl (cA11, n, .inl (fun _ => 0))), (q32, .inl (cA11, n, .inl (fun _ => 0)))]) := hD
  refine lv_aload_n hx hb dX1_init_37 rfl (lv_at hl 0 rfl) ?_
  refine lv_iload_n hx hb dX1_init_38 rfl (lv_at hl 1 rfl) ?_
  refine va_newa (atype := .int) (ty := .int) (n := (nI n)) (N' := n) (a0 := (n, .inl (fun _ => 0))) hx hb (hE.t m_84 rfl) rfl hK hP hD hS hA (ha0 n) (nI_pos (by omega)) (nI_clamp (by omega)) (by show n * 4 ≤ 536870912; omega) (by decide) (by show 160 + n ≤ 200; omega) dX1_init_39 (fun q39 cA39 H hK hP hD hS => ?_)
  refine W.widen (k := 5) (n := 200) (by omega) (by omega) ?_
  have h9 : cA11 = cA39 := cls_eq hK 0 1 rfl rfl
  subst h9
  have hK : va_K (dC, dI) vwCl [(cA11, .int)] s := hK.sub [0] rfl
  have hP : va_P (dC, dI) vwCl ([(q, .inr (1, [.int (nI n), .ref q11, .ref q18, .ref q25, .ref q32, .null])), (q11, .inl (cA11, n, .inl (fun _ => 0))), (q18, .inl (cA11, n, .inl (fun _ => 0))), (q25, .inl (cA11, n, .inl (fun _ => 0))), (q32, .inl (cA11, n, .inl (fun _ => 0))), (q39, .inl (cA11, n, .inl (fun _ => 0)))]) H := hP
  have hD : va_D A ([(q, .inr (1, [.int (nI n), .ref q11, .ref q18, .ref q25, .ref q32, .null])), (q11, .inl (cA11, n, .inl (fun _ => 0))), (q18, .inl (cA11, n, .inl (fun _ => 0))), (q25, .inl (cA11, n, .inl (fun _ => 0))), (q32, .inl (cA11, n, .inl (fun _ => 0))), (q39, .inl (cA11, n, .inl (fun _ => 0)))]) := hD
  refine va_putF (D := (dC, dI)) (ci := 1) (v := .ref q39) (ty := (.array .int)) (C := RX1) (T := TX1) (N := 6) hx hb hts inX1 tyX1 tyX1_ok nmX1 hown hK hP hD hS 0 rfl rfl 5 (by decide) (hE.t m_68 rfl) (fun _ h9 => h9) rfl hin rfl (by decide +kernel) rfl rfl (Nat.le_of_ble_eq_true rfl) dX1_init_41 (fun H locs hP hD hS => ?_)
  have hP : va_P (dC, dI) vwCl ([(q, .inr (1, [.int (nI n), .ref q11, .ref q18, .ref q25, .ref q32, .ref q39])), (q11, .inl (cA11, n, .inl (fun _ => 0))), (q18, .inl (cA11, n, .inl (fun _ => 0))), (q25, .inl (cA11, n, .inl (fun _ => 0))), (q32, .inl (cA11, n, .inl (fun _ => 0))), (q39, .inl (cA11, n, .inl (fun _ => 0)))]) H := hP
  have hD : va_D A ([(q, .inr (1, [.int (nI n), .ref q11, .ref q18, .ref q25, .ref q32, .ref q39])), (q11, .inl (cA11, n, .inl (fun _ => 0))), (q18, .inl (cA11, n, .inl (fun _ => 0))), (q25, .inl (cA11, n, .inl (fun _ => 0))), (q32, .inl (cA11, n, .inl (fun _ => 0))), (q39, .inl (cA11, n, .inl (fun _ => 0)))]) := hD
  refine lv_aload_n hx hb dX1_init_44 rfl (lv_at hl 0 rfl) ?_
  refine va_get (D := (dC, dI)) (ci := 1) (v := .ref q11) (C := RX1) (T := TX1) (N := 6) hx hb hts inX1 hown hK hP 0 rfl rfl 1 (by decide) (hE.t m_60 rfl) (fun _ h9 => h9) rfl dX1_init_45 ?_
  refine lv_iconst (v := 1) hx hb dX1_init_48 (by decide) ?_
  have hPc := hP.sub (ws' := [(q11, .inl (cA11, n, .inl (fun _ => 0)))]) [1] rfl
  have hDc := hD.sub (ws' := [(q11, .inl (cA11, n, .inl (fun _ => 0)))]) [1] (by decide) rfl
  have hFc := fre1 hD hS hA (k := 1) (x := (q11, .inl (cA11, n, .inl (fun _ => 0)))) rfl
  refine va_callv (va_runS (As := [.ref q11, .int 1]) (rest := []) ⟨hx, hb, hml, hown, hts⟩ (c_fill l dC dI cA11 q11 _ n (fun _ => 0) 1 (by omega)) (va_cwS 2 hts gX1_init_J0_fill rfl rfl rfl (by decide +kernel) ⟨(Nat.le_of_ble_eq_true rfl), (Nat.le_of_ble_eq_true rfl)⟩) ⟨ini_blind, fill_give hPc hK hDc⟩ rfl rfl hl.1 rfl (lv_room (Nat.le_of_ble_eq_true rfl)) dX1_init_49 ⟨by decide, by decide⟩) hS (fun q _ h => hFc q h) hFc (fun u t H1 locs ht hvm hw hB hz1 hk1 hS => ?_)
  obtain rfl := hw
  obtain ⟨hP, hD⟩ := fill_take (k := 1) hP hD rfl ht hk1 hB
  generalize H1 = H at hP hS ⊢
  have hP : va_P (dC, dI) vwCl ([(q, .inr (1, [.int (nI n), .ref q11, .ref q18, .ref q25, .ref q32, .ref q39])), (q11, .inl (cA11, n, .inl (fil (fun _ => 1) (fun _ => 0) n))), (q18, .inl (cA11, n, .inl (fun _ => 0))), (q25, .inl (cA11, n, .inl (fun _ => 0))), (q32, .inl (cA11, n, .inl (fun _ => 0))), (q39, .inl (cA11, n, .inl (fun _ => 0)))]) H := hP
  have hD : va_D A ([(q, .inr (1, [.int (nI n), .ref q11, .ref q18, .ref q25, .ref q32, .ref q39])), (q11, .inl (cA11, n, .inl (fil (fun _ => 1) (fun _ => 0) n))), (q18, .inl (cA11, n, .inl (fun _ => 0))), (q25, .inl (cA11, n, .inl (fun _ => 0))), (q32, .inl (cA11, n, .inl (fun _ => 0))), (q39, .inl (cA11, n, .inl (fun _ => 0)))]) := hD
  refine lv_aload_n hx hb dX1_init_52 rfl (lv_at hl 0 rfl) ?_
  refine va_get (D := (dC, dI)) (ci := 1) (v := .ref q32) (C := RX1) (T := TX1) (N := 6) hx hb hts inX1 hown hK hP 0 rfl rfl 4 (by decide) (hE.t m_66 rfl) (fun _ h9 => h9) rfl dX1_init_53 ?_
  refine lv_iconst (v := 1) hx hb dX1_init_56 (by decide) ?_
  have hPc := hP.sub (ws' := [(q32, .inl (cA11, n, .inl (fun _ => 0)))]) [4] rfl
  have hDc := hD.sub (ws' := [(q32, .inl (cA11, n, .inl (fun _ => 0)))]) [4] (by decide) rfl
  have hFc := fre1 hD hS hA (k := 4) (x := (q32, .inl (cA11, n, .inl (fun _ => 0)))) rfl
  refine va_callv (va_runS (As := [.ref q32, .int 1]) (rest := []) ⟨hx, hb, hml, hown, hts⟩ (c_fill l dC dI cA11 q32 _ n (fun _ => 0) 1 (by omega)) (va_cwS 2 hts gX1_init_J0_fill rfl rfl rfl (by decide +kernel) ⟨(Nat.le_of_ble_eq_true rfl), (Nat.le_of_ble_eq_true rfl)⟩) ⟨ini_blind, fill_give hPc hK hDc⟩ rfl rfl hl.1 rfl (lv_room (Nat.le_of_ble_eq_true rfl)) dX1_init_57 ⟨by decide, by decide⟩) hS (fun q _ h => hFc q h) hFc (fun u t H1 locs ht hvm hw hB hz1 hk1 hS => ?_)
  obtain rfl := hw
  obtain ⟨hP, hD⟩ := fill_take (k := 4) hP hD rfl ht hk1 hB
  generalize H1 = H at hP hS ⊢
  have hP : va_P (dC, dI) vwCl ([(q, .inr (1, [.int (nI n), .ref q11, .ref q18, .ref q25, .ref q32, .ref q39])), (q11, .inl (cA11, n, .inl (fil (fun _ => 1) (fun _ => 0) n))), (q18, .inl (cA11, n, .inl (fun _ => 0))), (q25, .inl (cA11, n, .inl (fun _ => 0))), (q32, .inl (cA11, n, .inl (fil (fun _ => 1) (fun _ => 0) n))), (q39, .inl (cA11, n, .inl (fun _ => 0)))]) H := hP
  have hD : va_D A ([(q, .inr (1, [.int (nI n), .ref q11, .ref q18, .ref q25, .ref q32, .ref q39])), (q11, .inl (cA11, n, .inl (fil (fun _ => 1) (fun _ => 0) n))), (q18, .inl (cA11, n, .inl (fun _ => 0))), (q25, .inl (cA11, n, .inl (fun _ => 0))), (q32, .inl (cA11, n, .inl (fil (fun _ => 1) (fun _ => 0) n))), (q39, .inl (cA11, n, .inl (fun _ => 0)))]) := hD
  refine W.widen (k := 5) (n := 200) (by omega) (by omega) ?_
  exact W.vret hx hb hr (fun t ht hW => ⟨⟨(cA11, q11, q18, q25, q32, q39), rfl, trivial, by rw [ht]; exact hP, va_K.moved hW.alike hK, hD⟩, hS.F ht⟩) hS.2.2 dX1_init_60

