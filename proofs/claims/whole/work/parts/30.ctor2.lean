set_option maxHeartbeats 4000000 in
set_option maxRecDepth 100000 in
/-- Told(n) -/
theorem c_X3_init (l : Launch) (dC : Nat → ClassId) (dI : Nat → Nat → Nat) (q : Nat) (sz : Nat) (n : Nat) (hn : n ≤ 40) : Met l yX3_init wsX3_init ({ frames := 1, cells := 3, slots := 104, locals := 40 }) (va_Pc [.ref q, .int (nI n)] (PJ dC dI [(q, .inr (3, [.null, .null, .null, .int 0, .long 0, .int 0, .int 0, .int 0]))] sz)) (va_Qv (fun (u : ClassId × Nat × Nat × Nat) => True) (fun (u : ClassId × Nat × Nat × Nat) t => va_P (dC, dI) vwCl [(q, .inr (3, [.ref u.2.1, .ref u.2.2.1, .ref u.2.2.2, .int 0, .long 0, .int 0, .int 0, .int 0])), (u.2.1, .inl (u.1, n, .inl (fun _ => 0))), (u.2.2.1, .inl (u.1, n, .inl (fun _ => 0))), (u.2.2.2, .inl (u.1, 24, .inl (fun _ => 0)))] t.heap ∧ va_K (dC, dI) vwCl [(u.1, .int)] t ∧ va_D (va_A [(q, .inr (3, [.null, .null, .null, .int 0, .long 0, .int 0, .int 0, .int 0]))] sz) [(q, .inr (3, [.ref u.2.1, .ref u.2.2.1, .ref u.2.2.2, .int 0, .long 0, .int 0, .int 0, .int 0])), (u.2.1, .inl (u.1, n, .inl (fun _ => 0))), (u.2.2.1, .inl (u.1, n, .inl (fun _ => 0))), (u.2.2.2, .inl (u.1, 24, .inl (fun _ => 0)))]) (va_A [(q, .inr (3, [.null, .null, .null, .int 0, .long 0, .int 0, .int 0, .int 0]))] sz)) 3 104 (va_A [(q, .inr (3, [.null, .null, .null, .int 0, .long 0, .int 0, .int 0, .int 0]))] sz) := by
  refine Met.ofW (cc := cX3_init) (maxL := 2) (ret := none) (by decide) rfl ?_
  intro p e s m args below meth c s₁ B hml hv
  obtain ⟨rfl, hsz, hP, hK, hD0, hE⟩ := hv
  have hx := B.exec
  have hb := B.bytes
  have hr := B.returns
  have hown : s.vm.findClass RX3 = some m.cls := findClass_of_methodNamed B.named
  have hlocks := B.notSynchronized
  have hin : meth.name = "<init>" := (name_of_methodNamed B.named B.method).1
  subst hsz
  have hD := hD0.self (sz := s.heap.size)
  generalize hAe : va_A [(q, .inr (3, [.null, .null, .null, .int 0, .long 0, .int 0, .int 0, .int 0]))] s.heap.size = A at hD hE ⊢
  have hts := hE.ts (args := ([.ref q, .int (nI n)] : List Value).toArray)
  have hA : ∀ q : Nat, s.heap.size ≤ q → A q := fun q h => by rw [← hAe]; exact Or.inr h
  have hS : va_S A s.heap s.heap [] := va_S.rf
  have hP : va_P (dC, dI) vwCl ([(q, .inr (3, [.null, .null, .null, .int 0, .long 0, .int 0, .int 0, .int 0]))]) s.heap := hP
  have hl := lv_entry ([.ref q, .int (nI n)]) (n := 2) (Nat.le_of_ble_eq_true rfl)
  rw [lg_entry_eq]
  generalize (lg_sl ([.ref q, .int (nI n)]) ++ List.replicate (2 - (lg_sl ([.ref q, .int (nI n)])).length) Slot.unset).toArray = ls at hl ⊢
  have hl : lv_has ls 2 [(0, .ref q), (1, .int (nI n))] := hl
  refine lv_aload_n hx hb dX3_init_0 rfl (lv_at hl 0 rfl) ?_
  refine W.objInit hx hb hown (hE.t m_110 rfl) (hE.t m_40 rfl) (hE.t m_41 rfl) rfl (by rw [hml]; exact hl.1) rfl dX3_init_1 (Nat.le_of_ble_eq_true rfl) (Nat.le_of_ble_eq_true rfl) ?_
  refine W.eq (g2 := F0 m 4 ls []) rfl ?_
  refine lv_aload_n hx hb dX3_init_4 rfl (lv_at hl 0 rfl) ?_
  refine lv_iload_n hx hb dX3_init_5 rfl (lv_at hl 1 rfl) ?_
  refine va_newa (atype := .int) (ty := .int) (n := (nI n)) (N' := n) (a0 := (n, .inl (fun _ => 0))) hx hb (hE.t m_84 rfl) rfl hK hP hD hS hA (ha0 n) (nI_pos (by omega)) (nI_clamp (by omega)) (by show n * 4 ≤ 536870912; omega) (by decide) (by show 0 + n ≤ 104; omega) dX3_init_6 (fun q6 cA6 H hK hP hD hS => ?_)
  refine W.widen (k := 1) (n := 40) (by omega) (by omega) ?_
  have hK : va_K (dC, dI) vwCl [(cA6, .int)] s := hK
  have hP : va_P (dC, dI) vwCl ([(q, .inr (3, [.null, .null, .null, .int 0, .long 0, .int 0, .int 0, .int 0])), (q6, .inl (cA6, n, .inl (fun _ => 0)))]) H := hP
  have hD : va_D A ([(q, .inr (3, [.null, .null, .null, .int 0, .long 0, .int 0, .int 0, .int 0])), (q6, .inl (cA6, n, .inl (fun _ => 0)))]) := hD
  refine va_putF (D := (dC, dI)) (ci := 3) (v := .ref q6) (ty := (.array .int)) (C := RX3) (T := TX3) (N := 8) hx hb hts inX3 tyX3 tyX3_ok nmX3 hown hK hP hD hS 0 rfl rfl 0 (by decide) (hE.t m_111 rfl) (fun _ h9 => h9) rfl hin rfl (by decide +kernel) rfl rfl (Nat.le_of_ble_eq_true rfl) dX3_init_8 (fun H locs hP hD hS => ?_)
  have hP : va_P (dC, dI) vwCl ([(q, .inr (3, [.ref q6, .null, .null, .int 0, .long 0, .int 0, .int 0, .int 0])), (q6, .inl (cA6, n, .inl (fun _ => 0)))]) H := hP
  have hD : va_D A ([(q, .inr (3, [.ref q6, .null, .null, .int 0, .long 0, .int 0, .int 0, .int 0])), (q6, .inl (cA6, n, .inl (fun _ => 0)))]) := hD
  refine lv_aload_n hx hb dX3_init_11 rfl (lv_at hl 0 rfl) ?_
  refine lv_iload_n hx hb dX3_init_12 rfl (lv_at hl 1 rfl) ?_
  refine va_newa (atype := .int) (ty := .int) (n := (nI n)) (N' := n) (a0 := (n, .inl (fun _ => 0))) hx hb (hE.t m_84 rfl) rfl hK hP hD hS hA (ha0 n) (nI_pos (by omega)) (nI_clamp (by omega)) (by show n * 4 ≤ 536870912; omega) (by decide) (by show 40 + n ≤ 104; omega) dX3_init_13 (fun q13 cA13 H hK hP hD hS => ?_)
  refine W.widen (k := 2) (n := 80) (by omega) (by omega) ?_
  have h9 : cA6 = cA13 := cls_eq hK 0 1 rfl rfl
  subst h9
  have hK : va_K (dC, dI) vwCl [(cA6, .int)] s := hK.sub [0] rfl
  have hP : va_P (dC, dI) vwCl ([(q, .inr (3, [.ref q6, .null, .null, .int 0, .long 0, .int 0, .int 0, .int 0])), (q6, .inl (cA6, n, .inl (fun _ => 0))), (q13, .inl (cA6, n, .inl (fun _ => 0)))]) H := hP
  have hD : va_D A ([(q, .inr (3, [.ref q6, .null, .null, .int 0, .long 0, .int 0, .int 0, .int 0])), (q6, .inl (cA6, n, .inl (fun _ => 0))), (q13, .inl (cA6, n, .inl (fun _ => 0)))]) := hD
  refine va_putF (D := (dC, dI)) (ci := 3) (v := .ref q13) (ty := (.array .int)) (C := RX3) (T := TX3) (N := 8) hx hb hts inX3 tyX3 tyX3_ok nmX3 hown hK hP hD hS 0 rfl rfl 1 (by decide) (hE.t m_113 rfl) (fun _ h9 => h9) rfl hin rfl (by decide +kernel) rfl rfl (Nat.le_of_ble_eq_true rfl) dX3_init_15 (fun H locs hP hD hS => ?_)
  have hP : va_P (dC, dI) vwCl ([(q, .inr (3, [.ref q6, .ref q13, .null, .int 0, .long 0, .int 0, .int 0, .int 0])), (q6, .inl (cA6, n, .inl (fun _ => 0))), (q13, .inl (cA6, n, .inl (fun _ => 0)))]) H := hP
  have hD : va_D A ([(q, .inr (3, [.ref q6, .ref q13, .null, .int 0, .long 0, .int 0, .int 0, .int 0])), (q6, .inl (cA6, n, .inl (fun _ => 0))), (q13, .inl (cA6, n, .inl (fun _ => 0)))]) := hD
  refine lv_aload_n hx hb dX3_init_18 rfl (lv_at hl 0 rfl) ?_
  refine lv_bipush (v := 24) hx hb dX3_init_19 (by decide) ?_
  refine va_newa (atype := .int) (ty := .int) (n := 24) (N' := 24) (a0 := (24, .inl (fun _ => 0))) hx hb (hE.t m_84 rfl) rfl hK hP hD hS hA (ha0 24) (by decide) (by decide) (by show 24 * 4 ≤ 536870912; omega) (by decide) (by show 80 + 24 ≤ 104; omega) dX3_init_21 (fun q21 cA21 H hK hP hD hS => ?_)
  refine W.widen (k := 3) (n := 104) (by omega) (by omega) ?_
  have h9 : cA6 = cA21 := cls_eq hK 0 1 rfl rfl
  subst h9
  have hK : va_K (dC, dI) vwCl [(cA6, .int)] s := hK.sub [0] rfl
  have hP : va_P (dC, dI) vwCl ([(q, .inr (3, [.ref q6, .ref q13, .null, .int 0, .long 0, .int 0, .int 0, .int 0])), (q6, .inl (cA6, n, .inl (fun _ => 0))), (q13, .inl (cA6, n, .inl (fun _ => 0))), (q21, .inl (cA6, 24, .inl (fun _ => 0)))]) H := hP
  have hD : va_D A ([(q, .inr (3, [.ref q6, .ref q13, .null, .int 0, .long 0, .int 0, .int 0, .int 0])), (q6, .inl (cA6, n, .inl (fun _ => 0))), (q13, .inl (cA6, n, .inl (fun _ => 0))), (q21, .inl (cA6, 24, .inl (fun _ => 0)))]) := hD
  refine va_putF (D := (dC, dI)) (ci := 3) (v := .ref q21) (ty := (.array .int)) (C := RX3) (T := TX3) (N := 8) hx hb hts inX3 tyX3 tyX3_ok nmX3 hown hK hP hD hS 0 rfl rfl 2 (by decide) (hE.t m_115 rfl) (fun _ h9 => h9) rfl hin rfl (by decide +kernel) rfl rfl (Nat.le_of_ble_eq_true rfl) dX3_init_23 (fun H locs hP hD hS => ?_)
  have hP : va_P (dC, dI) vwCl ([(q, .inr (3, [.ref q6, .ref q13, .ref q21, .int 0, .long 0, .int 0, .int 0, .int 0])), (q6, .inl (cA6, n, .inl (fun _ => 0))), (q13, .inl (cA6, n, .inl (fun _ => 0))), (q21, .inl (cA6, 24, .inl (fun _ => 0)))]) H := hP
  have hD : va_D A ([(q, .inr (3, [.ref q6, .ref q13, .ref q21, .int 0, .long 0, .int 0, .int 0, .int 0])), (q6, .inl (cA6, n, .inl (fun _ => 0))), (q13, .inl (cA6, n, .inl (fun _ => 0))), (q21, .inl (cA6, 24, .inl (fun _ => 0)))]) := hD
  refine W.widen (k := 3) (n := 104) (by omega) (by omega) ?_
  exact W.vret hx hb hr (fun t ht hW => ⟨⟨(cA6, q6, q13, q21), rfl, trivial, by rw [ht]; exact hP, va_K.moved hW.alike hK, hD⟩, hS.F ht⟩) hS.2.2 dX3_init_26

